section
-- ===== PART A: goes FIRST, ahead of the names: the tables' words, and 'selects' of the private methods out of them =====
/-- a private method of a class that the tables say can be made, by its rows of tables_1 -/
def lw_okq (q : MethodName × Nat) : Prop := (q.1.cls ≠ "java/lang/invoke/MethodHandle" ∧ q.1.cls ≠ "java/lang/invoke/VarHandle") ∧ Cond.instantiable q.1.cls q.2 ∈ tables_1 ∧ Cond.privateMethod q.1 ∈ tables_1 ∧ Cond.instanceMethod q.1 ∈ tables_1
theorem lw_p0 : lw_okq (⟨"LimpMirror", "refuse", "(I)I"⟩, 16) := ⟨⟨by decide +kernel, by decide +kernel⟩, List.mem_of_getElem? (i := 18) (by decide +kernel), List.mem_of_getElem? (i := 227) (by decide +kernel), List.mem_of_getElem? (i := 228) (by decide +kernel)⟩
theorem lw_p1 : lw_okq (⟨"LimpMirror$Room", "readItems", "(LLimpMirror$Cells;I)I"⟩, 5) := ⟨⟨by decide +kernel, by decide +kernel⟩, List.mem_of_getElem? (i := 48) (by decide +kernel), List.mem_of_getElem? (i := 326) (by decide +kernel), List.mem_of_getElem? (i := 327) (by decide +kernel)⟩
theorem lw_p2 : lw_okq (⟨"LimpMirror$Room", "readTerm", "(LLimpMirror$Cells;I)I"⟩, 5) := ⟨⟨by decide +kernel, by decide +kernel⟩, List.mem_of_getElem? (i := 48) (by decide +kernel), List.mem_of_getElem? (i := 330) (by decide +kernel), List.mem_of_getElem? (i := 331) (by decide +kernel)⟩
theorem lw_p3 : lw_okq (⟨"LimpMirror$Room", "readGlass", "(LLimpMirror$Cells;I)I"⟩, 5) := ⟨⟨by decide +kernel, by decide +kernel⟩, List.mem_of_getElem? (i := 48) (by decide +kernel), List.mem_of_getElem? (i := 334) (by decide +kernel), List.mem_of_getElem? (i := 335) (by decide +kernel)⟩
theorem lw_p4 : lw_okq (⟨"LimpMirror", "isGlass", "(I)Z"⟩, 16) := ⟨⟨by decide +kernel, by decide +kernel⟩, List.mem_of_getElem? (i := 18) (by decide +kernel), List.mem_of_getElem? (i := 359) (by decide +kernel), List.mem_of_getElem? (i := 360) (by decide +kernel)⟩
theorem lw_p5 : lw_okq (⟨"LimpMirror", "glassFact", "(II)I"⟩, 16) := ⟨⟨by decide +kernel, by decide +kernel⟩, List.mem_of_getElem? (i := 18) (by decide +kernel), List.mem_of_getElem? (i := 363) (by decide +kernel), List.mem_of_getElem? (i := 364) (by decide +kernel)⟩
theorem lw_p6 : lw_okq (⟨"LimpMirror", "paneOf", "(I)LLimpMirror$Pane;"⟩, 16) := ⟨⟨by decide +kernel, by decide +kernel⟩, List.mem_of_getElem? (i := 18) (by decide +kernel), List.mem_of_getElem? (i := 367) (by decide +kernel), List.mem_of_getElem? (i := 368) (by decide +kernel)⟩
theorem lw_p7 : lw_okq (⟨"LimpMirror", "noughtsAtDeeds", "(LLimpMirror$Pane;)I"⟩, 16) := ⟨⟨by decide +kernel, by decide +kernel⟩, List.mem_of_getElem? (i := 18) (by decide +kernel), List.mem_of_getElem? (i := 503) (by decide +kernel), List.mem_of_getElem? (i := 504) (by decide +kernel)⟩
theorem lw_p8 : lw_okq (⟨"LimpMirror", "doStep", "(II)I"⟩, 16) := ⟨⟨by decide +kernel, by decide +kernel⟩, List.mem_of_getElem? (i := 18) (by decide +kernel), List.mem_of_getElem? (i := 541) (by decide +kernel), List.mem_of_getElem? (i := 542) (by decide +kernel)⟩
theorem lw_p9 : lw_okq (⟨"LimpMirror$Deeds", "write", "(III)V"⟩, 2) := ⟨⟨by decide +kernel, by decide +kernel⟩, List.mem_of_getElem? (i := 30) (by decide +kernel), List.mem_of_getElem? (i := 549) (by decide +kernel), List.mem_of_getElem? (i := 550) (by decide +kernel)⟩
theorem lw_p10 : lw_okq (⟨"LimpMirror", "findSets", "(LLimpMirror$Pane;LLimpMirror$Cells;)Z"⟩, 16) := ⟨⟨by decide +kernel, by decide +kernel⟩, List.mem_of_getElem? (i := 18) (by decide +kernel), List.mem_of_getElem? (i := 640) (by decide +kernel), List.mem_of_getElem? (i := 641) (by decide +kernel)⟩
theorem lw_p11 : lw_okq (⟨"LimpMirror", "tell", "(JJ)V"⟩, 16) := ⟨⟨by decide +kernel, by decide +kernel⟩, List.mem_of_getElem? (i := 18) (by decide +kernel), List.mem_of_getElem? (i := 646) (by decide +kernel), List.mem_of_getElem? (i := 647) (by decide +kernel)⟩
theorem lw_p12 : lw_okq (⟨"LimpMirror", "lawsOf", "(LLimpMirror$Cells;LLimpMirror$Cells;)I"⟩, 16) := ⟨⟨by decide +kernel, by decide +kernel⟩, List.mem_of_getElem? (i := 18) (by decide +kernel), List.mem_of_getElem? (i := 668) (by decide +kernel), List.mem_of_getElem? (i := 669) (by decide +kernel)⟩
theorem lw_p13 : lw_okq (⟨"LimpMirror", "firstNotShown", "(LLimpMirror$Pane;LLimpMirror$Cells;LLimpMirror$Cells;)I"⟩, 16) := ⟨⟨by decide +kernel, by decide +kernel⟩, List.mem_of_getElem? (i := 18) (by decide +kernel), List.mem_of_getElem? (i := 672) (by decide +kernel), List.mem_of_getElem? (i := 673) (by decide +kernel)⟩
theorem lw_p14 : lw_okq (⟨"LimpMirror", "mostThatShowOneThing", "(II)I"⟩, 16) := ⟨⟨by decide +kernel, by decide +kernel⟩, List.mem_of_getElem? (i := 18) (by decide +kernel), List.mem_of_getElem? (i := 680) (by decide +kernel), List.mem_of_getElem? (i := 681) (by decide +kernel)⟩
theorem lw_p15 : lw_okq (⟨"LimpMirror$Chains", "weighStep", "(LLimpMirror$Room;LLimpMirror$Pane;III)V"⟩, 5) := ⟨⟨by decide +kernel, by decide +kernel⟩, List.mem_of_getElem? (i := 85) (by decide +kernel), List.mem_of_getElem? (i := 702) (by decide +kernel), List.mem_of_getElem? (i := 703) (by decide +kernel)⟩
def lw_privs_1 : List (MethodName × Nat) := [(⟨"LimpMirror", "refuse", "(I)I"⟩, 16), (⟨"LimpMirror$Room", "readItems", "(LLimpMirror$Cells;I)I"⟩, 5), (⟨"LimpMirror$Room", "readTerm", "(LLimpMirror$Cells;I)I"⟩, 5), (⟨"LimpMirror$Room", "readGlass", "(LLimpMirror$Cells;I)I"⟩, 5), (⟨"LimpMirror", "isGlass", "(I)Z"⟩, 16), (⟨"LimpMirror", "glassFact", "(II)I"⟩, 16), (⟨"LimpMirror", "paneOf", "(I)LLimpMirror$Pane;"⟩, 16), (⟨"LimpMirror", "noughtsAtDeeds", "(LLimpMirror$Pane;)I"⟩, 16), (⟨"LimpMirror", "doStep", "(II)I"⟩, 16), (⟨"LimpMirror$Deeds", "write", "(III)V"⟩, 2), (⟨"LimpMirror", "findSets", "(LLimpMirror$Pane;LLimpMirror$Cells;)Z"⟩, 16), (⟨"LimpMirror", "tell", "(JJ)V"⟩, 16), (⟨"LimpMirror", "lawsOf", "(LLimpMirror$Cells;LLimpMirror$Cells;)I"⟩, 16), (⟨"LimpMirror", "firstNotShown", "(LLimpMirror$Pane;LLimpMirror$Cells;LLimpMirror$Cells;)I"⟩, 16), (⟨"LimpMirror", "mostThatShowOneThing", "(II)I"⟩, 16), (⟨"LimpMirror$Chains", "weighStep", "(LLimpMirror$Room;LLimpMirror$Pane;III)V"⟩, 5)]
theorem lw_r1 : ∀ q ∈ lw_privs_1, lw_okq q := List.forall_mem_cons.mpr ⟨lw_p0, List.forall_mem_cons.mpr ⟨lw_p1, List.forall_mem_cons.mpr ⟨lw_p2, List.forall_mem_cons.mpr ⟨lw_p3, List.forall_mem_cons.mpr ⟨lw_p4, List.forall_mem_cons.mpr ⟨lw_p5, List.forall_mem_cons.mpr ⟨lw_p6, List.forall_mem_cons.mpr ⟨lw_p7, List.forall_mem_cons.mpr ⟨lw_p8, List.forall_mem_cons.mpr ⟨lw_p9, List.forall_mem_cons.mpr ⟨lw_p10, List.forall_mem_cons.mpr ⟨lw_p11, List.forall_mem_cons.mpr ⟨lw_p12, List.forall_mem_cons.mpr ⟨lw_p13, List.forall_mem_cons.mpr ⟨lw_p14, List.forall_mem_cons.mpr ⟨lw_p15, fun _ h => absurd h List.not_mem_nil⟩⟩⟩⟩⟩⟩⟩⟩⟩⟩⟩⟩⟩⟩⟩⟩
theorem lw_p16 : lw_okq (⟨"LimpMirror$Chains", "addChain", "(I)V"⟩, 5) := ⟨⟨by decide +kernel, by decide +kernel⟩, List.mem_of_getElem? (i := 85) (by decide +kernel), List.mem_of_getElem? (i := 714) (by decide +kernel), List.mem_of_getElem? (i := 715) (by decide +kernel)⟩
theorem lw_p17 : lw_okq (⟨"LimpMirror", "leastPick", "(II)I"⟩, 16) := ⟨⟨by decide +kernel, by decide +kernel⟩, List.mem_of_getElem? (i := 18) (by decide +kernel), List.mem_of_getElem? (i := 738) (by decide +kernel), List.mem_of_getElem? (i := 739) (by decide +kernel)⟩
theorem lw_p18 : lw_okq (⟨"LimpMirror", "isSafeBeforeAll", "(I)Z"⟩, 16) := ⟨⟨by decide +kernel, by decide +kernel⟩, List.mem_of_getElem? (i := 18) (by decide +kernel), List.mem_of_getElem? (i := 742) (by decide +kernel), List.mem_of_getElem? (i := 743) (by decide +kernel)⟩
theorem lw_p19 : lw_okq (⟨"LimpMirror", "breakingOfTwelve", "(LLimpMirror$Pane;LLimpMirror$Cells;II)I"⟩, 16) := ⟨⟨by decide +kernel, by decide +kernel⟩, List.mem_of_getElem? (i := 18) (by decide +kernel), List.mem_of_getElem? (i := 754) (by decide +kernel), List.mem_of_getElem? (i := 755) (by decide +kernel)⟩
theorem lw_p20 : lw_okq (⟨"LimpMirror", "glassesOf", "(I)I"⟩, 16) := ⟨⟨by decide +kernel, by decide +kernel⟩, List.mem_of_getElem? (i := 18) (by decide +kernel), List.mem_of_getElem? (i := 787) (by decide +kernel), List.mem_of_getElem? (i := 788) (by decide +kernel)⟩
theorem lw_p21 : lw_okq (⟨"LimpMirror", "keptOnes", "()I"⟩, 16) := ⟨⟨by decide +kernel, by decide +kernel⟩, List.mem_of_getElem? (i := 18) (by decide +kernel), List.mem_of_getElem? (i := 794) (by decide +kernel), List.mem_of_getElem? (i := 795) (by decide +kernel)⟩
theorem lw_p22 : lw_okq (⟨"LimpMirrorModel", "finds", "(I)I"⟩, 32) := ⟨⟨by decide +kernel, by decide +kernel⟩, List.mem_of_getElem? (i := 816) (by decide +kernel), List.mem_of_getElem? (i := 929) (by decide +kernel), List.mem_of_getElem? (i := 930) (by decide +kernel)⟩
theorem lw_p23 : lw_okq (⟨"LimpMirrorModel", "wrongAt", "(II)I"⟩, 32) := ⟨⟨by decide +kernel, by decide +kernel⟩, List.mem_of_getElem? (i := 816) (by decide +kernel), List.mem_of_getElem? (i := 937) (by decide +kernel), List.mem_of_getElem? (i := 938) (by decide +kernel)⟩
theorem lw_p24 : lw_okq (⟨"LimpMirrorModel", "tells", "(I)I"⟩, 32) := ⟨⟨by decide +kernel, by decide +kernel⟩, List.mem_of_getElem? (i := 816) (by decide +kernel), List.mem_of_getElem? (i := 941) (by decide +kernel), List.mem_of_getElem? (i := 942) (by decide +kernel)⟩
theorem lw_p25 : lw_okq (⟨"LimpMirrorModel", "isRoom", "(I)Z"⟩, 32) := ⟨⟨by decide +kernel, by decide +kernel⟩, List.mem_of_getElem? (i := 816) (by decide +kernel), List.mem_of_getElem? (i := 979) (by decide +kernel), List.mem_of_getElem? (i := 980) (by decide +kernel)⟩
theorem lw_p26 : lw_okq (⟨"LimpMirrorModel", "areHabits", "()Z"⟩, 32) := ⟨⟨by decide +kernel, by decide +kernel⟩, List.mem_of_getElem? (i := 816) (by decide +kernel), List.mem_of_getElem? (i := 983) (by decide +kernel), List.mem_of_getElem? (i := 984) (by decide +kernel)⟩
theorem lw_p27 : lw_okq (⟨"LimpMirrorModel", "skip", "()V"⟩, 32) := ⟨⟨by decide +kernel, by decide +kernel⟩, List.mem_of_getElem? (i := 816) (by decide +kernel), List.mem_of_getElem? (i := 987) (by decide +kernel), List.mem_of_getElem? (i := 988) (by decide +kernel)⟩
theorem lw_p28 : lw_okq (⟨"LimpMirrorModel", "letter", "()I"⟩, 32) := ⟨⟨by decide +kernel, by decide +kernel⟩, List.mem_of_getElem? (i := 816) (by decide +kernel), List.mem_of_getElem? (i := 991) (by decide +kernel), List.mem_of_getElem? (i := 992) (by decide +kernel)⟩
theorem lw_p29 : lw_okq (⟨"LimpMirrorModel", "figure", "(I)I"⟩, 32) := ⟨⟨by decide +kernel, by decide +kernel⟩, List.mem_of_getElem? (i := 816) (by decide +kernel), List.mem_of_getElem? (i := 995) (by decide +kernel), List.mem_of_getElem? (i := 996) (by decide +kernel)⟩
theorem lw_p30 : lw_okq (⟨"LimpMirrorModel", "isGlassItem", "()Z"⟩, 32) := ⟨⟨by decide +kernel, by decide +kernel⟩, List.mem_of_getElem? (i := 816) (by decide +kernel), List.mem_of_getElem? (i := 1002) (by decide +kernel), List.mem_of_getElem? (i := 1003) (by decide +kernel)⟩
theorem lw_p31 : lw_okq (⟨"LimpMirrorModel", "isTermItem", "()Z"⟩, 32) := ⟨⟨by decide +kernel, by decide +kernel⟩, List.mem_of_getElem? (i := 816) (by decide +kernel), List.mem_of_getElem? (i := 1006) (by decide +kernel), List.mem_of_getElem? (i := 1007) (by decide +kernel)⟩
def lw_privs_2 : List (MethodName × Nat) := [(⟨"LimpMirror$Chains", "addChain", "(I)V"⟩, 5), (⟨"LimpMirror", "leastPick", "(II)I"⟩, 16), (⟨"LimpMirror", "isSafeBeforeAll", "(I)Z"⟩, 16), (⟨"LimpMirror", "breakingOfTwelve", "(LLimpMirror$Pane;LLimpMirror$Cells;II)I"⟩, 16), (⟨"LimpMirror", "glassesOf", "(I)I"⟩, 16), (⟨"LimpMirror", "keptOnes", "()I"⟩, 16), (⟨"LimpMirrorModel", "finds", "(I)I"⟩, 32), (⟨"LimpMirrorModel", "wrongAt", "(II)I"⟩, 32), (⟨"LimpMirrorModel", "tells", "(I)I"⟩, 32), (⟨"LimpMirrorModel", "isRoom", "(I)Z"⟩, 32), (⟨"LimpMirrorModel", "areHabits", "()Z"⟩, 32), (⟨"LimpMirrorModel", "skip", "()V"⟩, 32), (⟨"LimpMirrorModel", "letter", "()I"⟩, 32), (⟨"LimpMirrorModel", "figure", "(I)I"⟩, 32), (⟨"LimpMirrorModel", "isGlassItem", "()Z"⟩, 32), (⟨"LimpMirrorModel", "isTermItem", "()Z"⟩, 32)]
theorem lw_r2 : ∀ q ∈ lw_privs_2, lw_okq q := List.forall_mem_cons.mpr ⟨lw_p16, List.forall_mem_cons.mpr ⟨lw_p17, List.forall_mem_cons.mpr ⟨lw_p18, List.forall_mem_cons.mpr ⟨lw_p19, List.forall_mem_cons.mpr ⟨lw_p20, List.forall_mem_cons.mpr ⟨lw_p21, List.forall_mem_cons.mpr ⟨lw_p22, List.forall_mem_cons.mpr ⟨lw_p23, List.forall_mem_cons.mpr ⟨lw_p24, List.forall_mem_cons.mpr ⟨lw_p25, List.forall_mem_cons.mpr ⟨lw_p26, List.forall_mem_cons.mpr ⟨lw_p27, List.forall_mem_cons.mpr ⟨lw_p28, List.forall_mem_cons.mpr ⟨lw_p29, List.forall_mem_cons.mpr ⟨lw_p30, List.forall_mem_cons.mpr ⟨lw_p31, fun _ h => absurd h List.not_mem_nil⟩⟩⟩⟩⟩⟩⟩⟩⟩⟩⟩⟩⟩⟩⟩⟩
theorem lw_p32 : lw_okq (⟨"LimpMirrorModel", "isGlass", "(I)Z"⟩, 32) := ⟨⟨by decide +kernel, by decide +kernel⟩, List.mem_of_getElem? (i := 816) (by decide +kernel), List.mem_of_getElem? (i := 1018) (by decide +kernel), List.mem_of_getElem? (i := 1019) (by decide +kernel)⟩
theorem lw_p33 : lw_okq (⟨"LimpMirrorModel", "brokenBy", "(I)I"⟩, 32) := ⟨⟨by decide +kernel, by decide +kernel⟩, List.mem_of_getElem? (i := 816) (by decide +kernel), List.mem_of_getElem? (i := 1022) (by decide +kernel), List.mem_of_getElem? (i := 1023) (by decide +kernel)⟩
theorem lw_p34 : lw_okq (⟨"LimpMirrorModel", "shownOf", "(I)I"⟩, 32) := ⟨⟨by decide +kernel, by decide +kernel⟩, List.mem_of_getElem? (i := 816) (by decide +kernel), List.mem_of_getElem? (i := 1026) (by decide +kernel), List.mem_of_getElem? (i := 1027) (by decide +kernel)⟩
theorem lw_p35 : lw_okq (⟨"LimpMirrorModel", "showsOf", "(I[II)I"⟩, 32) := ⟨⟨by decide +kernel, by decide +kernel⟩, List.mem_of_getElem? (i := 816) (by decide +kernel), List.mem_of_getElem? (i := 1030) (by decide +kernel), List.mem_of_getElem? (i := 1031) (by decide +kernel)⟩
theorem lw_p36 : lw_okq (⟨"LimpMirrorModel", "showsBy", "(II[II)I"⟩, 32) := ⟨⟨by decide +kernel, by decide +kernel⟩, List.mem_of_getElem? (i := 816) (by decide +kernel), List.mem_of_getElem? (i := 1034) (by decide +kernel), List.mem_of_getElem? (i := 1035) (by decide +kernel)⟩
theorem lw_p37 : lw_okq (⟨"LimpMirrorModel", "termBy", "(II)I"⟩, 32) := ⟨⟨by decide +kernel, by decide +kernel⟩, List.mem_of_getElem? (i := 816) (by decide +kernel), List.mem_of_getElem? (i := 1041) (by decide +kernel), List.mem_of_getElem? (i := 1042) (by decide +kernel)⟩
theorem lw_p38 : lw_okq (⟨"LimpMirrorModel", "doStep", "(II)I"⟩, 32) := ⟨⟨by decide +kernel, by decide +kernel⟩, List.mem_of_getElem? (i := 816) (by decide +kernel), List.mem_of_getElem? (i := 1067) (by decide +kernel), List.mem_of_getElem? (i := 1068) (by decide +kernel)⟩
theorem lw_p39 : lw_okq (⟨"LimpMirrorModel", "brokenMany", "()I"⟩, 32) := ⟨⟨by decide +kernel, by decide +kernel⟩, List.mem_of_getElem? (i := 816) (by decide +kernel), List.mem_of_getElem? (i := 1079) (by decide +kernel), List.mem_of_getElem? (i := 1080) (by decide +kernel)⟩
theorem lw_p40 : lw_okq (⟨"LimpMirrorModel", "takeOut", "(II[I)I"⟩, 32) := ⟨⟨by decide +kernel, by decide +kernel⟩, List.mem_of_getElem? (i := 816) (by decide +kernel), List.mem_of_getElem? (i := 1099) (by decide +kernel), List.mem_of_getElem? (i := 1100) (by decide +kernel)⟩
theorem lw_p41 : lw_okq (⟨"LimpMirrorModel", "layRow", "(II[I)I"⟩, 32) := ⟨⟨by decide +kernel, by decide +kernel⟩, List.mem_of_getElem? (i := 816) (by decide +kernel), List.mem_of_getElem? (i := 1103) (by decide +kernel), List.mem_of_getElem? (i := 1104) (by decide +kernel)⟩
theorem lw_p42 : lw_okq (⟨"LimpMirrorModel", "breaksAt", "(II)Z"⟩, 32) := ⟨⟨by decide +kernel, by decide +kernel⟩, List.mem_of_getElem? (i := 816) (by decide +kernel), List.mem_of_getElem? (i := 1111) (by decide +kernel), List.mem_of_getElem? (i := 1112) (by decide +kernel)⟩
theorem lw_p43 : lw_okq (⟨"LimpMirrorModel", "takeTwo", "(II)I"⟩, 32) := ⟨⟨by decide +kernel, by decide +kernel⟩, List.mem_of_getElem? (i := 816) (by decide +kernel), List.mem_of_getElem? (i := 1123) (by decide +kernel), List.mem_of_getElem? (i := 1124) (by decide +kernel)⟩
theorem lw_p44 : lw_okq (⟨"LimpMirrorModel", "layDoings", "(II)V"⟩, 32) := ⟨⟨by decide +kernel, by decide +kernel⟩, List.mem_of_getElem? (i := 816) (by decide +kernel), List.mem_of_getElem? (i := 1134) (by decide +kernel), List.mem_of_getElem? (i := 1135) (by decide +kernel)⟩
theorem lw_p45 : lw_okq (⟨"LimpMirrorModel", "shows", "(II)Z"⟩, 32) := ⟨⟨by decide +kernel, by decide +kernel⟩, List.mem_of_getElem? (i := 816) (by decide +kernel), List.mem_of_getElem? (i := 1138) (by decide +kernel), List.mem_of_getElem? (i := 1139) (by decide +kernel)⟩
theorem lw_p46 : lw_okq (⟨"LimpMirrorModel", "tellParts", "(JJ)V"⟩, 32) := ⟨⟨by decide +kernel, by decide +kernel⟩, List.mem_of_getElem? (i := 816) (by decide +kernel), List.mem_of_getElem? (i := 1142) (by decide +kernel), List.mem_of_getElem? (i := 1143) (by decide +kernel)⟩
theorem lw_p47 : lw_okq (⟨"LimpMirrorModel", "lawsOf", "(I)I"⟩, 32) := ⟨⟨by decide +kernel, by decide +kernel⟩, List.mem_of_getElem? (i := 816) (by decide +kernel), List.mem_of_getElem? (i := 1158) (by decide +kernel), List.mem_of_getElem? (i := 1159) (by decide +kernel)⟩
def lw_privs_3 : List (MethodName × Nat) := [(⟨"LimpMirrorModel", "isGlass", "(I)Z"⟩, 32), (⟨"LimpMirrorModel", "brokenBy", "(I)I"⟩, 32), (⟨"LimpMirrorModel", "shownOf", "(I)I"⟩, 32), (⟨"LimpMirrorModel", "showsOf", "(I[II)I"⟩, 32), (⟨"LimpMirrorModel", "showsBy", "(II[II)I"⟩, 32), (⟨"LimpMirrorModel", "termBy", "(II)I"⟩, 32), (⟨"LimpMirrorModel", "doStep", "(II)I"⟩, 32), (⟨"LimpMirrorModel", "brokenMany", "()I"⟩, 32), (⟨"LimpMirrorModel", "takeOut", "(II[I)I"⟩, 32), (⟨"LimpMirrorModel", "layRow", "(II[I)I"⟩, 32), (⟨"LimpMirrorModel", "breaksAt", "(II)Z"⟩, 32), (⟨"LimpMirrorModel", "takeTwo", "(II)I"⟩, 32), (⟨"LimpMirrorModel", "layDoings", "(II)V"⟩, 32), (⟨"LimpMirrorModel", "shows", "(II)Z"⟩, 32), (⟨"LimpMirrorModel", "tellParts", "(JJ)V"⟩, 32), (⟨"LimpMirrorModel", "lawsOf", "(I)I"⟩, 32)]
theorem lw_r3 : ∀ q ∈ lw_privs_3, lw_okq q := List.forall_mem_cons.mpr ⟨lw_p32, List.forall_mem_cons.mpr ⟨lw_p33, List.forall_mem_cons.mpr ⟨lw_p34, List.forall_mem_cons.mpr ⟨lw_p35, List.forall_mem_cons.mpr ⟨lw_p36, List.forall_mem_cons.mpr ⟨lw_p37, List.forall_mem_cons.mpr ⟨lw_p38, List.forall_mem_cons.mpr ⟨lw_p39, List.forall_mem_cons.mpr ⟨lw_p40, List.forall_mem_cons.mpr ⟨lw_p41, List.forall_mem_cons.mpr ⟨lw_p42, List.forall_mem_cons.mpr ⟨lw_p43, List.forall_mem_cons.mpr ⟨lw_p44, List.forall_mem_cons.mpr ⟨lw_p45, List.forall_mem_cons.mpr ⟨lw_p46, List.forall_mem_cons.mpr ⟨lw_p47, fun _ h => absurd h List.not_mem_nil⟩⟩⟩⟩⟩⟩⟩⟩⟩⟩⟩⟩⟩⟩⟩⟩
theorem lw_p48 : lw_okq (⟨"LimpMirrorModel", "breaksNone", "(II)Z"⟩, 32) := ⟨⟨by decide +kernel, by decide +kernel⟩, List.mem_of_getElem? (i := 816) (by decide +kernel), List.mem_of_getElem? (i := 1180) (by decide +kernel), List.mem_of_getElem? (i := 1181) (by decide +kernel)⟩
theorem lw_p49 : lw_okq (⟨"LimpMirrorModel", "gameBy", "(I)I"⟩, 32) := ⟨⟨by decide +kernel, by decide +kernel⟩, List.mem_of_getElem? (i := 816) (by decide +kernel), List.mem_of_getElem? (i := 1192) (by decide +kernel), List.mem_of_getElem? (i := 1193) (by decide +kernel)⟩
theorem lw_p50 : lw_okq (⟨"LimpMirrorModel", "isSafe", "(I)Z"⟩, 32) := ⟨⟨by decide +kernel, by decide +kernel⟩, List.mem_of_getElem? (i := 816) (by decide +kernel), List.mem_of_getElem? (i := 1196) (by decide +kernel), List.mem_of_getElem? (i := 1197) (by decide +kernel)⟩
theorem lw_p51 : lw_okq (⟨"LimpMirrorModel", "countOf", "(I)I"⟩, 32) := ⟨⟨by decide +kernel, by decide +kernel⟩, List.mem_of_getElem? (i := 816) (by decide +kernel), List.mem_of_getElem? (i := 1238) (by decide +kernel), List.mem_of_getElem? (i := 1239) (by decide +kernel)⟩
theorem lw_p52 : lw_okq (⟨"LimpMirrorModel", "kindsOf", "(I)I"⟩, 32) := ⟨⟨by decide +kernel, by decide +kernel⟩, List.mem_of_getElem? (i := 816) (by decide +kernel), List.mem_of_getElem? (i := 1242) (by decide +kernel), List.mem_of_getElem? (i := 1243) (by decide +kernel)⟩
theorem lw_p53 : lw_okq (⟨"LimpMirrorModel", "add", "(I)V"⟩, 32) := ⟨⟨by decide +kernel, by decide +kernel⟩, List.mem_of_getElem? (i := 816) (by decide +kernel), List.mem_of_getElem? (i := 1262) (by decide +kernel), List.mem_of_getElem? (i := 1263) (by decide +kernel)⟩
def lw_privs_4 : List (MethodName × Nat) := [(⟨"LimpMirrorModel", "breaksNone", "(II)Z"⟩, 32), (⟨"LimpMirrorModel", "gameBy", "(I)I"⟩, 32), (⟨"LimpMirrorModel", "isSafe", "(I)Z"⟩, 32), (⟨"LimpMirrorModel", "countOf", "(I)I"⟩, 32), (⟨"LimpMirrorModel", "kindsOf", "(I)I"⟩, 32), (⟨"LimpMirrorModel", "add", "(I)V"⟩, 32)]
theorem lw_r4 : ∀ q ∈ lw_privs_4, lw_okq q := List.forall_mem_cons.mpr ⟨lw_p48, List.forall_mem_cons.mpr ⟨lw_p49, List.forall_mem_cons.mpr ⟨lw_p50, List.forall_mem_cons.mpr ⟨lw_p51, List.forall_mem_cons.mpr ⟨lw_p52, List.forall_mem_cons.mpr ⟨lw_p53, fun _ h => absurd h List.not_mem_nil⟩⟩⟩⟩⟩⟩
def lw_privs : List (MethodName × Nat) := lw_privs_1 ++ (lw_privs_2 ++ (lw_privs_3 ++ (lw_privs_4)))
def lw_tbl : List Cond := k2_sels lw_privs ++ tables_1
theorem lw_privs_ok : ∀ q ∈ lw_privs, lw_okq q := by
  show ∀ q ∈ lw_privs_1 ++ (lw_privs_2 ++ (lw_privs_3 ++ (lw_privs_4))), lw_okq q
  exact List.forall_mem_append.mpr ⟨lw_r1, List.forall_mem_append.mpr ⟨lw_r2, List.forall_mem_append.mpr ⟨lw_r3, lw_r4⟩⟩⟩
def RX0 : String := "LimpMirror$Cells"
def TX0 : u_T := fun k => match k with
  | 0 => ("LimpMirror$Cells", "cells", "[I", true)
  | _ => ("LimpMirror$Cells", "size", "I", false)
def tyX0 : Nat → FieldType := fun k => match k with
  | 0 => .array .int
  | _ => .int
theorem nmX0 : ∀ a, a < 2 → ∀ b, b < 2 → a ≠ b → (TX0 a).2.1 ≠ (TX0 b).2.1 := by decide +kernel
theorem tyX0_ok : ∀ k, k < 2 → parseFieldDescriptor (TX0 k).2.2.1 = some (tyX0 k) := by decide +kernel
abbrev cX0_init : ByteArray := prog_2_method_1_code
def yX0_init : MethodName := ⟨RX0, "<init>", "(I)V"⟩
abbrev cX0_isMissing : ByteArray := prog_2_method_2_code
def yX0_isMissing : MethodName := ⟨RX0, "isMissing", "()Z"⟩
abbrev cX0_size : ByteArray := prog_2_method_3_code
def yX0_size : MethodName := ⟨RX0, "size", "()I"⟩
abbrev cX0_has : ByteArray := prog_2_method_4_code
def yX0_has : MethodName := ⟨RX0, "has", "(I)Z"⟩
abbrev cX0_hasPlaces : ByteArray := prog_2_method_5_code
def yX0_hasPlaces : MethodName := ⟨RX0, "hasPlaces", "(II)Z"⟩
abbrev cX0_get : ByteArray := prog_2_method_6_code
def yX0_get : MethodName := ⟨RX0, "get", "(I)I"⟩
abbrev cX0_set : ByteArray := prog_2_method_7_code
def yX0_set : MethodName := ⟨RX0, "set", "(II)V"⟩
abbrev cX0_open : ByteArray := prog_2_method_8_code
def yX0_open : MethodName := ⟨RX0, "open", "(II)V"⟩
abbrev cX0_drop : ByteArray := prog_2_method_9_code
def yX0_drop : MethodName := ⟨RX0, "drop", "()V"⟩
abbrev cX0_take : ByteArray := prog_2_method_10_code
def yX0_take : MethodName := ⟨RX0, "take", "(LLimpMirror$Cells;III)V"⟩
abbrev cX0_takeAll : ByteArray := prog_2_method_11_code
def yX0_takeAll : MethodName := ⟨RX0, "takeAll", "(LLimpMirror$Cells;)V"⟩
abbrev cX0_stepAt : ByteArray := prog_2_method_12_code
def yX0_stepAt : MethodName := ⟨RX0, "stepAt", "(I)I"⟩
def RX1 : String := "LimpMirror$Chains"
def TX1 : u_T := fun k => match k with
  | 0 => ("LimpMirror$Chains", "rowsFrom", "[I", true)
  | 1 => ("LimpMirror$Chains", "stillFrom", "[I", true)
  | 2 => ("LimpMirror$Chains", "rows", "I", false)
  | 3 => ("LimpMirror$Chains", "fewest", "I", false)
  | _ => ("LimpMirror$Chains", "firsts", "I", false)
def tyX1 : Nat → FieldType := fun k => match k with
  | 0 => .array .int
  | 1 => .array .int
  | 2 => .int
  | 3 => .int
  | _ => .int
theorem nmX1 : ∀ a, a < 5 → ∀ b, b < 5 → a ≠ b → (TX1 a).2.1 ≠ (TX1 b).2.1 := by decide +kernel
theorem tyX1_ok : ∀ k, k < 5 → parseFieldDescriptor (TX1 k).2.2.1 = some (tyX1 k) := by decide +kernel
abbrev cX1_init : ByteArray := prog_3_method_1_code
def yX1_init : MethodName := ⟨RX1, "<init>", "()V"⟩
abbrev cX1_rows : ByteArray := prog_3_method_2_code
def yX1_rows : MethodName := ⟨RX1, "rows", "()I"⟩
abbrev cX1_fewestStill : ByteArray := prog_3_method_3_code
def yX1_fewestStill : MethodName := ⟨RX1, "fewestStill", "()I"⟩
abbrev cX1_firstSteps : ByteArray := prog_3_method_4_code
def yX1_firstSteps : MethodName := ⟨RX1, "firstSteps", "()I"⟩
abbrev cX1_weigh : ByteArray := prog_3_method_5_code
def yX1_weigh : MethodName := ⟨RX1, "weigh", "(LLimpMirror$Room;LLimpMirror$Pane;I)V"⟩
abbrev cX1_isHead : ByteArray := prog_3_method_6_code
def yX1_isHead : MethodName := ⟨RX1, "isHead", "(LLimpMirror$Pane;I)Z"⟩
abbrev cX1_heirOf : ByteArray := prog_3_method_7_code
def yX1_heirOf : MethodName := ⟨RX1, "heirOf", "(LLimpMirror$Pane;II)I"⟩
abbrev cX1_weighStep : ByteArray := prog_3_method_8_code
def yX1_weighStep : MethodName := ⟨RX1, "weighStep", "(LLimpMirror$Room;LLimpMirror$Pane;III)V"⟩
abbrev cX1_shownAtHead : ByteArray := prog_3_method_9_code
def yX1_shownAtHead : MethodName := ⟨RX1, "shownAtHead", "(LLimpMirror$Room;LLimpMirror$Pane;II)I"⟩
abbrev cX1_addChain : ByteArray := prog_3_method_10_code
def yX1_addChain : MethodName := ⟨RX1, "addChain", "(I)V"⟩
def RX2 : String := "LimpMirror$Deeds"
def TX2 : u_T := fun k => match k with
  | 0 => ("LimpMirror$Deeds", "facts", "[I", true)
  | _ => ("LimpMirror$Deeds", "size", "I", false)
def tyX2 : Nat → FieldType := fun k => match k with
  | 0 => .array .int
  | _ => .int
theorem nmX2 : ∀ a, a < 2 → ∀ b, b < 2 → a ≠ b → (TX2 a).2.1 ≠ (TX2 b).2.1 := by decide +kernel
theorem tyX2_ok : ∀ k, k < 2 → parseFieldDescriptor (TX2 k).2.2.1 = some (tyX2 k) := by decide +kernel
abbrev cX2_init : ByteArray := prog_4_method_1_code
def yX2_init : MethodName := ⟨RX2, "<init>", "()V"⟩
abbrev cX2_size : ByteArray := prog_4_method_2_code
def yX2_size : MethodName := ⟨RX2, "size", "()I"⟩
abbrev cX2_isMissing : ByteArray := prog_4_method_3_code
def yX2_isMissing : MethodName := ⟨RX2, "isMissing", "()Z"⟩
abbrev cX2_drop : ByteArray := prog_4_method_4_code
def yX2_drop : MethodName := ⟨RX2, "drop", "()V"⟩
abbrev cX2_fact : ByteArray := prog_4_method_5_code
def yX2_fact : MethodName := ⟨RX2, "fact", "(II)I"⟩
abbrev cX2_write : ByteArray := prog_4_method_6_code
def yX2_write : MethodName := ⟨RX2, "write", "(III)V"⟩
abbrev cX2_add : ByteArray := prog_4_method_7_code
def yX2_add : MethodName := ⟨RX2, "add", "(II)V"⟩
abbrev cX2_see : ByteArray := prog_4_method_8_code
def yX2_see : MethodName := ⟨RX2, "see", "(III)V"⟩
abbrev cX2_cutTo : ByteArray := prog_4_method_9_code
def yX2_cutTo : MethodName := ⟨RX2, "cutTo", "(I)V"⟩
abbrev cX2_takeAll : ByteArray := prog_4_method_10_code
def yX2_takeAll : MethodName := ⟨RX2, "takeAll", "(LLimpMirror$Deeds;)V"⟩
abbrev cX2_howManyBefore : ByteArray := prog_4_method_11_code
def yX2_howManyBefore : MethodName := ⟨RX2, "howManyBefore", "(I)I"⟩
abbrev cX2_howManyBrokeBefore : ByteArray := prog_4_method_12_code
def yX2_howManyBrokeBefore : MethodName := ⟨RX2, "howManyBrokeBefore", "(I)I"⟩
abbrev cX2_howManyBroke : ByteArray := prog_4_method_13_code
def yX2_howManyBroke : MethodName := ⟨RX2, "howManyBroke", "(I)I"⟩
abbrev cX2_firstThatBroke : ByteArray := prog_4_method_14_code
def yX2_firstThatBroke : MethodName := ⟨RX2, "firstThatBroke", "()I"⟩
abbrev cX2_stepAt : ByteArray := prog_4_method_15_code
def yX2_stepAt : MethodName := ⟨RX2, "stepAt", "(I)I"⟩
def RX3 : String := "LimpMirror$Doings"
def TX3 : u_T := fun k => match k with
  | _ => ("", "", "", false)
def tyX3 : Nat → FieldType := fun k => match k with
  | _ => .int
theorem nmX3 : ∀ a, a < 0 → ∀ b, b < 0 → a ≠ b → (TX3 a).2.1 ≠ (TX3 b).2.1 := by decide +kernel
theorem tyX3_ok : ∀ k, k < 0 → parseFieldDescriptor (TX3 k).2.2.1 = some (tyX3 k) := by decide +kernel
abbrev cX3_init : ByteArray := prog_5_method_1_code
def yX3_init : MethodName := ⟨RX3, "<init>", "()V"⟩
def RX4 : String := "LimpMirror$Friend"
def TX4 : u_T := fun k => match k with
  | 0 => ("LimpMirror$Pane", "kind", "I", true)
  | _ => ("LimpMirror$Pane", "delay", "I", true)
def tyX4 : Nat → FieldType := fun k => match k with
  | 0 => .int
  | _ => .int
theorem nmX4 : ∀ a, a < 2 → ∀ b, b < 2 → a ≠ b → (TX4 a).2.1 ≠ (TX4 b).2.1 := by decide +kernel
theorem tyX4_ok : ∀ k, k < 2 → parseFieldDescriptor (TX4 k).2.2.1 = some (tyX4 k) := by decide +kernel
abbrev cX4_init : ByteArray := prog_6_method_1_code
def yX4_init : MethodName := ⟨RX4, "<init>", "(II)V"⟩
abbrev cX4_source : ByteArray := prog_6_method_2_code
def yX4_source : MethodName := ⟨RX4, "source", "(I)I"⟩
abbrev cX4_thinks : ByteArray := prog_6_method_3_code
def yX4_thinks : MethodName := ⟨RX4, "thinks", "(I)Z"⟩
def RX5 : String := "LimpMirror$Late"
def TX5 : u_T := fun k => match k with
  | 0 => ("LimpMirror$Pane", "kind", "I", true)
  | _ => ("LimpMirror$Pane", "delay", "I", true)
def tyX5 : Nat → FieldType := fun k => match k with
  | 0 => .int
  | _ => .int
theorem nmX5 : ∀ a, a < 2 → ∀ b, b < 2 → a ≠ b → (TX5 a).2.1 ≠ (TX5 b).2.1 := by decide +kernel
theorem tyX5_ok : ∀ k, k < 2 → parseFieldDescriptor (TX5 k).2.2.1 = some (tyX5 k) := by decide +kernel
abbrev cX5_init : ByteArray := prog_7_method_1_code
def yX5_init : MethodName := ⟨RX5, "<init>", "(II)V"⟩
abbrev cX5_source : ByteArray := prog_7_method_2_code
def yX5_source : MethodName := ⟨RX5, "source", "(I)I"⟩
abbrev cX5_isOf : ByteArray := prog_7_method_3_code
def yX5_isOf : MethodName := ⟨RX5, "isOf", "(I)Z"⟩
def RX6 : String := "LimpMirror$Limp"
def TX6 : u_T := fun k => match k with
  | 0 => ("LimpMirror$Pane", "kind", "I", true)
  | _ => ("LimpMirror$Pane", "delay", "I", true)
def tyX6 : Nat → FieldType := fun k => match k with
  | 0 => .int
  | _ => .int
theorem nmX6 : ∀ a, a < 2 → ∀ b, b < 2 → a ≠ b → (TX6 a).2.1 ≠ (TX6 b).2.1 := by decide +kernel
theorem tyX6_ok : ∀ k, k < 2 → parseFieldDescriptor (TX6 k).2.2.1 = some (tyX6 k) := by decide +kernel
abbrev cX6_init : ByteArray := prog_8_method_1_code
def yX6_init : MethodName := ⟨RX6, "<init>", "(II)V"⟩
abbrev cX6_source : ByteArray := prog_8_method_2_code
def yX6_source : MethodName := ⟨RX6, "source", "(I)I"⟩
abbrev cX6_placesToLimp : ByteArray := prog_8_method_3_code
def yX6_placesToLimp : MethodName := ⟨RX6, "placesToLimp", "(I)I"⟩
def RX7 : String := "LimpMirror$Pane"
def TX7 : u_T := fun k => match k with
  | 0 => ("LimpMirror$Pane", "kind", "I", true)
  | _ => ("LimpMirror$Pane", "delay", "I", true)
def tyX7 : Nat → FieldType := fun k => match k with
  | 0 => .int
  | _ => .int
theorem nmX7 : ∀ a, a < 2 → ∀ b, b < 2 → a ≠ b → (TX7 a).2.1 ≠ (TX7 b).2.1 := by decide +kernel
theorem tyX7_ok : ∀ k, k < 2 → parseFieldDescriptor (TX7 k).2.2.1 = some (tyX7 k) := by decide +kernel
abbrev cX7_init : ByteArray := prog_9_method_1_code
def yX7_init : MethodName := ⟨RX7, "<init>", "(II)V"⟩
abbrev cX7_kind : ByteArray := prog_9_method_2_code
def yX7_kind : MethodName := ⟨RX7, "kind", "()I"⟩
abbrev cX7_delay : ByteArray := prog_9_method_3_code
def yX7_delay : MethodName := ⟨RX7, "delay", "()I"⟩
abbrev cX7_isOf : ByteArray := prog_9_method_4_code
def yX7_isOf : MethodName := ⟨RX7, "isOf", "(I)Z"⟩
abbrev cX7_source : ByteArray := prog_9_method_5_code
def yX7_source : MethodName := ⟨RX7, "source", "(I)I"⟩
abbrev cX7_thinks : ByteArray := prog_9_method_6_code
def yX7_thinks : MethodName := ⟨RX7, "thinks", "(I)Z"⟩
abbrev cX7_isOdd : ByteArray := prog_9_method_7_code
def yX7_isOdd : MethodName := ⟨RX7, "isOdd", "(I)Z"⟩
def RX8 : String := "LimpMirror$Room"
def TX8 : u_T := fun k => match k with
  | 0 => ("LimpMirror$Room", "habits", "[I", true)
  | 1 => ("LimpMirror$Room", "glassLaws", "[I", true)
  | 2 => ("LimpMirror$Room", "glasses", "I", false)
  | 3 => ("LimpMirror$Room", "termSteps", "[I", true)
  | _ => ("LimpMirror$Room", "terms", "I", false)
def tyX8 : Nat → FieldType := fun k => match k with
  | 0 => .array .int
  | 1 => .array .int
  | 2 => .int
  | 3 => .array .int
  | _ => .int
theorem nmX8 : ∀ a, a < 5 → ∀ b, b < 5 → a ≠ b → (TX8 a).2.1 ≠ (TX8 b).2.1 := by decide +kernel
theorem tyX8_ok : ∀ k, k < 5 → parseFieldDescriptor (TX8 k).2.2.1 = some (tyX8 k) := by decide +kernel
abbrev cX8_init : ByteArray := prog_10_method_1_code
def yX8_init : MethodName := ⟨RX8, "<init>", "()V"⟩
abbrev cX8_glasses : ByteArray := prog_10_method_2_code
def yX8_glasses : MethodName := ⟨RX8, "glasses", "()I"⟩
abbrev cX8_terms : ByteArray := prog_10_method_3_code
def yX8_terms : MethodName := ⟨RX8, "terms", "()I"⟩
abbrev cX8_lawOf : ByteArray := prog_10_method_4_code
def yX8_lawOf : MethodName := ⟨RX8, "lawOf", "(I)I"⟩
abbrev cX8_termStep : ByteArray := prog_10_method_5_code
def yX8_termStep : MethodName := ⟨RX8, "termStep", "(II)I"⟩
abbrev cX8_thought : ByteArray := prog_10_method_6_code
def yX8_thought : MethodName := ⟨RX8, "thought", "(I)I"⟩
abbrev cX8_seen : ByteArray := prog_10_method_7_code
def yX8_seen : MethodName := ⟨RX8, "seen", "(LLimpMirror$Pane;II)I"⟩
abbrev cX8_shown : ByteArray := prog_10_method_8_code
def yX8_shown : MethodName := ⟨RX8, "shown", "(LLimpMirror$Pane;LLimpMirror$Doings;I)I"⟩
abbrev cX8_stepsSeenAs : ByteArray := prog_10_method_9_code
def yX8_stepsSeenAs : MethodName := ⟨RX8, "stepsSeenAs", "(LLimpMirror$Pane;II)I"⟩
abbrev cX8_firstBroken : ByteArray := prog_10_method_10_code
def yX8_firstBroken : MethodName := ⟨RX8, "firstBroken", "(II)I"⟩
abbrev cX8_isBroken : ByteArray := prog_10_method_11_code
def yX8_isBroken : MethodName := ⟨RX8, "isBroken", "(II)Z"⟩
abbrev cX8_read : ByteArray := prog_10_method_12_code
def yX8_read : MethodName := ⟨RX8, "read", "(LLimpMirror$Cells;)I"⟩
abbrev cX8_readItems : ByteArray := prog_10_method_13_code
def yX8_readItems : MethodName := ⟨RX8, "readItems", "(LLimpMirror$Cells;I)I"⟩
abbrev cX8_readGlass : ByteArray := prog_10_method_14_code
def yX8_readGlass : MethodName := ⟨RX8, "readGlass", "(LLimpMirror$Cells;I)I"⟩
abbrev cX8_readTerm : ByteArray := prog_10_method_15_code
def yX8_readTerm : MethodName := ⟨RX8, "readTerm", "(LLimpMirror$Cells;I)I"⟩
abbrev cX8_kindOf : ByteArray := prog_10_method_16_code
def yX8_kindOf : MethodName := ⟨RX8, "kindOf", "(I)I"⟩
abbrev cX8_afterBlanks : ByteArray := prog_10_method_17_code
def yX8_afterBlanks : MethodName := ⟨RX8, "afterBlanks", "(LLimpMirror$Cells;I)I"⟩
abbrev cX8_isFigure : ByteArray := prog_10_method_18_code
def yX8_isFigure : MethodName := ⟨RX8, "isFigure", "(LLimpMirror$Cells;II)Z"⟩
def RX9 : String := "LimpMirror$Thin"
def TX9 : u_T := fun k => match k with
  | 0 => ("LimpMirror$Pane", "kind", "I", true)
  | _ => ("LimpMirror$Pane", "delay", "I", true)
def tyX9 : Nat → FieldType := fun k => match k with
  | 0 => .int
  | _ => .int
theorem nmX9 : ∀ a, a < 2 → ∀ b, b < 2 → a ≠ b → (TX9 a).2.1 ≠ (TX9 b).2.1 := by decide +kernel
theorem tyX9_ok : ∀ k, k < 2 → parseFieldDescriptor (TX9 k).2.2.1 = some (tyX9 k) := by decide +kernel
abbrev cX9_init : ByteArray := prog_11_method_1_code
def yX9_init : MethodName := ⟨RX9, "<init>", "(II)V"⟩
abbrev cX9_source : ByteArray := prog_11_method_2_code
def yX9_source : MethodName := ⟨RX9, "source", "(I)I"⟩
abbrev cX9_isOf : ByteArray := prog_11_method_3_code
def yX9_isOf : MethodName := ⟨RX9, "isOf", "(I)Z"⟩
def RX10 : String := "LimpMirror$Thought"
def TX10 : u_T := fun k => match k with
  | 0 => ("LimpMirror$Pane", "kind", "I", true)
  | _ => ("LimpMirror$Pane", "delay", "I", true)
def tyX10 : Nat → FieldType := fun k => match k with
  | 0 => .int
  | _ => .int
theorem nmX10 : ∀ a, a < 2 → ∀ b, b < 2 → a ≠ b → (TX10 a).2.1 ≠ (TX10 b).2.1 := by decide +kernel
theorem tyX10_ok : ∀ k, k < 2 → parseFieldDescriptor (TX10 k).2.2.1 = some (tyX10 k) := by decide +kernel
abbrev cX10_init : ByteArray := prog_12_method_1_code
def yX10_init : MethodName := ⟨RX10, "<init>", "(II)V"⟩
abbrev cX10_thinks : ByteArray := prog_12_method_2_code
def yX10_thinks : MethodName := ⟨RX10, "thinks", "(I)Z"⟩
def RX11 : String := "LimpMirror"
def TX11 : u_T := fun k => match k with
  | 0 => ("LimpMirror", "rows", "[LLimpMirror$Cells;", true)
  | 1 => ("LimpMirror", "texts", "[LLimpMirror$Cells;", true)
  | 2 => ("LimpMirror", "panes", "[LLimpMirror$Pane;", true)
  | 3 => ("LimpMirror", "deeds", "LLimpMirror$Deeds;", true)
  | 4 => ("LimpMirror", "kept", "[LLimpMirror$Deeds;", true)
  | 5 => ("LimpMirror", "room", "LLimpMirror$Room;", false)
  | 6 => ("LimpMirror", "draft", "LLimpMirror$Room;", false)
  | 7 => ("LimpMirror", "trial", "LLimpMirror$Cells;", true)
  | 8 => ("LimpMirror", "sets", "[I", true)
  | 9 => ("LimpMirror", "tally", "[I", true)
  | 10 => ("LimpMirror", "chains", "LLimpMirror$Chains;", true)
  | 11 => ("LimpMirror", "told", "I", false)
  | 12 => ("LimpMirror", "over", "J", false)
  | 13 => ("LimpMirror", "under", "J", false)
  | 14 => ("LimpMirror", "latestFinding", "I", false)
  | _ => ("LimpMirror", "findingCounts", "[I", true)
def tyX11 : Nat → FieldType := fun k => match k with
  | 0 => .array (.object "LimpMirror$Cells")
  | 1 => .array (.object "LimpMirror$Cells")
  | 2 => .array (.object "LimpMirror$Pane")
  | 3 => .object "LimpMirror$Deeds"
  | 4 => .array (.object "LimpMirror$Deeds")
  | 5 => .object "LimpMirror$Room"
  | 6 => .object "LimpMirror$Room"
  | 7 => .object "LimpMirror$Cells"
  | 8 => .array .int
  | 9 => .array .int
  | 10 => .object "LimpMirror$Chains"
  | 11 => .int
  | 12 => .long
  | 13 => .long
  | 14 => .int
  | _ => .array .int
theorem nmX11 : ∀ a, a < 16 → ∀ b, b < 16 → a ≠ b → (TX11 a).2.1 ≠ (TX11 b).2.1 := by decide +kernel
theorem tyX11_ok : ∀ k, k < 16 → parseFieldDescriptor (TX11 k).2.2.1 = some (tyX11 k) := by decide +kernel
abbrev cX11_init : ByteArray := prog_1_method_1_code
def yX11_init : MethodName := ⟨RX11, "<init>", "()V"⟩
abbrev cX11_row : ByteArray := prog_1_method_2_code
def yX11_row : MethodName := ⟨RX11, "row", "(II)I"⟩
abbrev cX11_lay : ByteArray := prog_1_method_3_code
def yX11_lay : MethodName := ⟨RX11, "lay", "(III)I"⟩
abbrev cX11_at : ByteArray := prog_1_method_4_code
def yX11_at : MethodName := ⟨RX11, "at", "(II)I"⟩
abbrev cX11_tear : ByteArray := prog_1_method_5_code
def yX11_tear : MethodName := ⟨RX11, "tear", "(I)I"⟩
abbrev cX11_copy : ByteArray := prog_1_method_6_code
def yX11_copy : MethodName := ⟨RX11, "copy", "(IIIII)I"⟩
abbrev cX11_mean : ByteArray := prog_1_method_7_code
def yX11_mean : MethodName := ⟨RX11, "mean", "(I)I"⟩
abbrev cX11_text : ByteArray := prog_1_method_8_code
def yX11_text : MethodName := ⟨RX11, "text", "(II)I"⟩
abbrev cX11_put : ByteArray := prog_1_method_9_code
def yX11_put : MethodName := ⟨RX11, "put", "(III)I"⟩
abbrev cX11_fault : ByteArray := prog_1_method_10_code
def yX11_fault : MethodName := ⟨RX11, "fault", "(I)I"⟩
abbrev cX11_room : ByteArray := prog_1_method_11_code
def yX11_room : MethodName := ⟨RX11, "room", "(I)I"⟩
abbrev cX11_glass : ByteArray := prog_1_method_12_code
def yX11_glass : MethodName := ⟨RX11, "glass", "(II)I"⟩
abbrev cX11_mark : ByteArray := prog_1_method_13_code
def yX11_mark : MethodName := ⟨RX11, "mark", "(II)I"⟩
abbrev cX11_habit : ByteArray := prog_1_method_14_code
def yX11_habit : MethodName := ⟨RX11, "habit", "(I)I"⟩
abbrev cX11_term : ByteArray := prog_1_method_15_code
def yX11_term : MethodName := ⟨RX11, "term", "(II)I"⟩
abbrev cX11_step : ByteArray := prog_1_method_16_code
def yX11_step : MethodName := ⟨RX11, "step", "(II)I"⟩
abbrev cX11_deed : ByteArray := prog_1_method_17_code
def yX11_deed : MethodName := ⟨RX11, "deed", "(II)I"⟩
abbrev cX11_broken : ByteArray := prog_1_method_18_code
def yX11_broken : MethodName := ⟨RX11, "broken", "()I"⟩
abbrev cX11_undo : ByteArray := prog_1_method_19_code
def yX11_undo : MethodName := ⟨RX11, "undo", "(I)I"⟩
abbrev cX11_keep : ByteArray := prog_1_method_20_code
def yX11_keep : MethodName := ⟨RX11, "keep", "(I)I"⟩
abbrev cX11_on : ByteArray := prog_1_method_21_code
def yX11_on : MethodName := ⟨RX11, "on", "(I)I"⟩
abbrev cX11_show : ByteArray := prog_1_method_22_code
def yX11_show : MethodName := ⟨RX11, "show", "(III)I"⟩
abbrev cX11_breaks : ByteArray := prog_1_method_23_code
def yX11_breaks : MethodName := ⟨RX11, "breaks", "(II)I"⟩
abbrev cX11_alike : ByteArray := prog_1_method_24_code
def yX11_alike : MethodName := ⟨RX11, "alike", "(II)I"⟩
abbrev cX11_fit : ByteArray := prog_1_method_25_code
def yX11_fit : MethodName := ⟨RX11, "fit", "(II)I"⟩
abbrev cX11_ways : ByteArray := prog_1_method_26_code
def yX11_ways : MethodName := ⟨RX11, "ways", "(II)I"⟩
abbrev cX11_first : ByteArray := prog_1_method_27_code
def yX11_first : MethodName := ⟨RX11, "first", "(III)I"⟩
abbrev cX11_can : ByteArray := prog_1_method_28_code
def yX11_can : MethodName := ⟨RX11, "can", "(III)I"⟩
abbrev cX11_laws : ByteArray := prog_1_method_29_code
def yX11_laws : MethodName := ⟨RX11, "laws", "(II)I"⟩
abbrev cX11_next : ByteArray := prog_1_method_30_code
def yX11_next : MethodName := ⟨RX11, "next", "(II)I"⟩
abbrev cX11_he : ByteArray := prog_1_method_31_code
def yX11_he : MethodName := ⟨RX11, "he", "(III)I"⟩
abbrev cX11_keeps : ByteArray := prog_1_method_32_code
def yX11_keeps : MethodName := ⟨RX11, "keeps", "(II)I"⟩
abbrev cX11_still : ByteArray := prog_1_method_33_code
def yX11_still : MethodName := ⟨RX11, "still", "(II)I"⟩
abbrev cX11_game : ByteArray := prog_1_method_34_code
def yX11_game : MethodName := ⟨RX11, "game", "(I)I"⟩
abbrev cX11_picks : ByteArray := prog_1_method_35_code
def yX11_picks : MethodName := ⟨RX11, "picks", "(I)I"⟩
abbrev cX11_odds : ByteArray := prog_1_method_36_code
def yX11_odds : MethodName := ⟨RX11, "odds", "(III)I"⟩
abbrev cX11_mid : ByteArray := prog_1_method_37_code
def yX11_mid : MethodName := ⟨RX11, "mid", "(III)I"⟩
abbrev cX11_lots : ByteArray := prog_1_method_38_code
def yX11_lots : MethodName := ⟨RX11, "lots", "(II)I"⟩
abbrev cX11_asked : ByteArray := prog_1_method_39_code
def yX11_asked : MethodName := ⟨RX11, "asked", "()I"⟩
abbrev cX11_upper : ByteArray := prog_1_method_40_code
def yX11_upper : MethodName := ⟨RX11, "upper", "()J"⟩
abbrev cX11_lower : ByteArray := prog_1_method_41_code
def yX11_lower : MethodName := ⟨RX11, "lower", "()J"⟩
abbrev cX11_count : ByteArray := prog_1_method_42_code
def yX11_count : MethodName := ⟨RX11, "count", "(I)I"⟩
abbrev cX11_finding : ByteArray := prog_1_method_43_code
def yX11_finding : MethodName := ⟨RX11, "finding", "()I"⟩
abbrev cX11_findings : ByteArray := prog_1_method_44_code
def yX11_findings : MethodName := ⟨RX11, "findings", "(I)I"⟩
abbrev cX11_digest : ByteArray := prog_1_method_45_code
def yX11_digest : MethodName := ⟨RX11, "digest", "()J"⟩
abbrev cX11_refuse : ByteArray := prog_1_method_46_code
def yX11_refuse : MethodName := ⟨RX11, "refuse", "(I)I"⟩
abbrev cX11_isRow : ByteArray := prog_1_method_47_code
def yX11_isRow : MethodName := ⟨RX11, "isRow", "(I)Z"⟩
abbrev cX11_isText : ByteArray := prog_1_method_48_code
def yX11_isText : MethodName := ⟨RX11, "isText", "(I)Z"⟩
abbrev cX11_isKept : ByteArray := prog_1_method_49_code
def yX11_isKept : MethodName := ⟨RX11, "isKept", "(I)Z"⟩
abbrev cX11_isStep : ByteArray := prog_1_method_50_code
def yX11_isStep : MethodName := ⟨RX11, "isStep", "(I)Z"⟩
abbrev cX11_isGlass : ByteArray := prog_1_method_51_code
def yX11_isGlass : MethodName := ⟨RX11, "isGlass", "(I)Z"⟩
abbrev cX11_findingOfPlace : ByteArray := prog_1_method_52_code
def yX11_findingOfPlace : MethodName := ⟨RX11, "findingOfPlace", "(LLimpMirror$Cells;I)I"⟩
abbrev cX11_findingOfSteps : ByteArray := prog_1_method_53_code
def yX11_findingOfSteps : MethodName := ⟨RX11, "findingOfSteps", "(LLimpMirror$Cells;I)I"⟩
abbrev cX11_findingOfPair : ByteArray := prog_1_method_54_code
def yX11_findingOfPair : MethodName := ⟨RX11, "findingOfPair", "(LLimpMirror$Cells;LLimpMirror$Cells;I)I"⟩
abbrev cX11_newPane : ByteArray := prog_1_method_55_code
def yX11_newPane : MethodName := ⟨RX11, "newPane", "(II)LLimpMirror$Pane;"⟩
abbrev cX11_paneOf : ByteArray := prog_1_method_56_code
def yX11_paneOf : MethodName := ⟨RX11, "paneOf", "(I)LLimpMirror$Pane;"⟩
abbrev cX11_glassFact : ByteArray := prog_1_method_57_code
def yX11_glassFact : MethodName := ⟨RX11, "glassFact", "(II)I"⟩
abbrev cX11_noughtsAtDeeds : ByteArray := prog_1_method_58_code
def yX11_noughtsAtDeeds : MethodName := ⟨RX11, "noughtsAtDeeds", "(LLimpMirror$Pane;)I"⟩
abbrev cX11_doStep : ByteArray := prog_1_method_59_code
def yX11_doStep : MethodName := ⟨RX11, "doStep", "(II)I"⟩
abbrev cX11_glassesOf : ByteArray := prog_1_method_60_code
def yX11_glassesOf : MethodName := ⟨RX11, "glassesOf", "(I)I"⟩
abbrev cX11_keptOnes : ByteArray := prog_1_method_61_code
def yX11_keptOnes : MethodName := ⟨RX11, "keptOnes", "()I"⟩
abbrev cX11_howManyThere : ByteArray := prog_1_method_62_code
def yX11_howManyThere : MethodName := ⟨RX11, "howManyThere", "([LLimpMirror$Cells;)I"⟩
abbrev cX11_digestOf : ByteArray := prog_1_method_63_code
def yX11_digestOf : MethodName := ⟨RX11, "digestOf", "([LLimpMirror$Cells;J)J"⟩
abbrev cX11_findSets : ByteArray := prog_1_method_64_code
def yX11_findSets : MethodName := ⟨RX11, "findSets", "(LLimpMirror$Pane;LLimpMirror$Cells;)Z"⟩
abbrev cX11_leastOf : ByteArray := prog_1_method_65_code
def yX11_leastOf : MethodName := ⟨RX11, "leastOf", "(I)I"⟩
abbrev cX11_firstNotShown : ByteArray := prog_1_method_66_code
def yX11_firstNotShown : MethodName := ⟨RX11, "firstNotShown", "(LLimpMirror$Pane;LLimpMirror$Cells;LLimpMirror$Cells;)I"⟩
abbrev cX11_lawsOf : ByteArray := prog_1_method_67_code
def yX11_lawsOf : MethodName := ⟨RX11, "lawsOf", "(LLimpMirror$Cells;LLimpMirror$Cells;)I"⟩
abbrev cX11_mostThatShowOneThing : ByteArray := prog_1_method_68_code
def yX11_mostThatShowOneThing : MethodName := ⟨RX11, "mostThatShowOneThing", "(II)I"⟩
abbrev cX11_leastPick : ByteArray := prog_1_method_69_code
def yX11_leastPick : MethodName := ⟨RX11, "leastPick", "(II)I"⟩
abbrev cX11_isSafeBeforeAll : ByteArray := prog_1_method_70_code
def yX11_isSafeBeforeAll : MethodName := ⟨RX11, "isSafeBeforeAll", "(I)Z"⟩
abbrev cX11_breakingOfTwelve : ByteArray := prog_1_method_71_code
def yX11_breakingOfTwelve : MethodName := ⟨RX11, "breakingOfTwelve", "(LLimpMirror$Pane;LLimpMirror$Cells;II)I"⟩
abbrev cX11_tell : ByteArray := prog_1_method_72_code
def yX11_tell : MethodName := ⟨RX11, "tell", "(JJ)V"⟩
abbrev cX11_commonDivisor : ByteArray := prog_1_method_73_code
def yX11_commonDivisor : MethodName := ⟨RX11, "commonDivisor", "(JJ)J"⟩
def RX12 : String := "LimpMirrorModel"
def TX12 : u_T := fun k => match k with
  | 0 => ("LimpMirrorModel", "rowSize", "[I", true)
  | 1 => ("LimpMirrorModel", "rowAt", "[I", true)
  | 2 => ("LimpMirrorModel", "textSize", "[I", true)
  | 3 => ("LimpMirrorModel", "textAt", "[I", true)
  | 4 => ("LimpMirrorModel", "readHabit", "[I", true)
  | 5 => ("LimpMirrorModel", "readGlasses", "I", false)
  | 6 => ("LimpMirrorModel", "readGlass", "[I", true)
  | 7 => ("LimpMirrorModel", "readTerms", "I", false)
  | 8 => ("LimpMirrorModel", "readTerm", "[I", true)
  | 9 => ("LimpMirrorModel", "habits", "[I", true)
  | 10 => ("LimpMirrorModel", "glasses", "I", false)
  | 11 => ("LimpMirrorModel", "glassAt", "[I", true)
  | 12 => ("LimpMirrorModel", "terms", "I", false)
  | 13 => ("LimpMirrorModel", "termAt", "[I", true)
  | 14 => ("LimpMirrorModel", "deeds", "I", false)
  | 15 => ("LimpMirrorModel", "did", "[I", true)
  | 16 => ("LimpMirrorModel", "before", "[I", true)
  | 17 => ("LimpMirrorModel", "keptMany", "[I", true)
  | 18 => ("LimpMirrorModel", "keptDid", "[I", true)
  | 19 => ("LimpMirrorModel", "keptBefore", "[I", true)
  | 20 => ("LimpMirrorModel", "asked", "I", false)
  | 21 => ("LimpMirrorModel", "upper", "J", false)
  | 22 => ("LimpMirrorModel", "lower", "J", false)
  | 23 => ("LimpMirrorModel", "found", "I", false)
  | 24 => ("LimpMirrorModel", "times", "[I", true)
  | 25 => ("LimpMirrorModel", "doings", "[I", true)
  | 26 => ("LimpMirrorModel", "other", "[I", true)
  | 27 => ("LimpMirrorModel", "shown", "[I", true)
  | 28 => ("LimpMirrorModel", "position", "I", false)
  | 29 => ("LimpMirrorModel", "from", "I", false)
  | 30 => ("LimpMirrorModel", "size", "I", false)
  | _ => ("LimpMirrorModel", "mix", "J", false)
def tyX12 : Nat → FieldType := fun k => match k with
  | 0 => .array .int
  | 1 => .array .int
  | 2 => .array .int
  | 3 => .array .int
  | 4 => .array .int
  | 5 => .int
  | 6 => .array .int
  | 7 => .int
  | 8 => .array .int
  | 9 => .array .int
  | 10 => .int
  | 11 => .array .int
  | 12 => .int
  | 13 => .array .int
  | 14 => .int
  | 15 => .array .int
  | 16 => .array .int
  | 17 => .array .int
  | 18 => .array .int
  | 19 => .array .int
  | 20 => .int
  | 21 => .long
  | 22 => .long
  | 23 => .int
  | 24 => .array .int
  | 25 => .array .int
  | 26 => .array .int
  | 27 => .array .int
  | 28 => .int
  | 29 => .int
  | 30 => .int
  | _ => .long
theorem nmX12 : ∀ a, a < 32 → ∀ b, b < 32 → a ≠ b → (TX12 a).2.1 ≠ (TX12 b).2.1 := by decide +kernel
theorem tyX12_ok : ∀ k, k < 32 → parseFieldDescriptor (TX12 k).2.2.1 = some (tyX12 k) := by decide +kernel
abbrev cX12_init : ByteArray := prog_14_method_1_code
def yX12_init : MethodName := ⟨RX12, "<init>", "()V"⟩
abbrev cX12_in : ByteArray := prog_14_method_2_code
def yX12_in : MethodName := ⟨RX12, "in", "(III)Z"⟩
abbrev cX12_has : ByteArray := prog_14_method_3_code
def yX12_has : MethodName := ⟨RX12, "has", "(II)Z"⟩
abbrev cX12_finds : ByteArray := prog_14_method_4_code
def yX12_finds : MethodName := ⟨RX12, "finds", "(I)I"⟩
abbrev cX12_tells : ByteArray := prog_14_method_5_code
def yX12_tells : MethodName := ⟨RX12, "tells", "(I)I"⟩
abbrev cX12_tellParts : ByteArray := prog_14_method_6_code
def yX12_tellParts : MethodName := ⟨RX12, "tellParts", "(JJ)V"⟩
abbrev cX12_isRow : ByteArray := prog_14_method_7_code
def yX12_isRow : MethodName := ⟨RX12, "isRow", "(I)Z"⟩
abbrev cX12_isText : ByteArray := prog_14_method_8_code
def yX12_isText : MethodName := ⟨RX12, "isText", "(I)Z"⟩
abbrev cX12_row : ByteArray := prog_14_method_9_code
def yX12_row : MethodName := ⟨RX12, "row", "(II)I"⟩
abbrev cX12_wrongAt : ByteArray := prog_14_method_10_code
def yX12_wrongAt : MethodName := ⟨RX12, "wrongAt", "(II)I"⟩
abbrev cX12_lay : ByteArray := prog_14_method_11_code
def yX12_lay : MethodName := ⟨RX12, "lay", "(III)I"⟩
abbrev cX12_at : ByteArray := prog_14_method_12_code
def yX12_at : MethodName := ⟨RX12, "at", "(II)I"⟩
abbrev cX12_tear : ByteArray := prog_14_method_13_code
def yX12_tear : MethodName := ⟨RX12, "tear", "(I)I"⟩
abbrev cX12_isPart : ByteArray := prog_14_method_14_code
def yX12_isPart : MethodName := ⟨RX12, "isPart", "(III)Z"⟩
abbrev cX12_copy : ByteArray := prog_14_method_15_code
def yX12_copy : MethodName := ⟨RX12, "copy", "(IIIII)I"⟩
abbrev cX12_mean : ByteArray := prog_14_method_16_code
def yX12_mean : MethodName := ⟨RX12, "mean", "(I)I"⟩
abbrev cX12_text : ByteArray := prog_14_method_17_code
def yX12_text : MethodName := ⟨RX12, "text", "(II)I"⟩
abbrev cX12_put : ByteArray := prog_14_method_18_code
def yX12_put : MethodName := ⟨RX12, "put", "(III)I"⟩
abbrev cX12_letter : ByteArray := prog_14_method_19_code
def yX12_letter : MethodName := ⟨RX12, "letter", "()I"⟩
abbrev cX12_skip : ByteArray := prog_14_method_20_code
def yX12_skip : MethodName := ⟨RX12, "skip", "()V"⟩
abbrev cX12_figure : ByteArray := prog_14_method_21_code
def yX12_figure : MethodName := ⟨RX12, "figure", "(I)I"⟩
abbrev cX12_kindBy : ByteArray := prog_14_method_22_code
def yX12_kindBy : MethodName := ⟨RX12, "kindBy", "(I)I"⟩
abbrev cX12_areHabits : ByteArray := prog_14_method_23_code
def yX12_areHabits : MethodName := ⟨RX12, "areHabits", "()Z"⟩
abbrev cX12_isGlassItem : ByteArray := prog_14_method_24_code
def yX12_isGlassItem : MethodName := ⟨RX12, "isGlassItem", "()Z"⟩
abbrev cX12_isTermItem : ByteArray := prog_14_method_25_code
def yX12_isTermItem : MethodName := ⟨RX12, "isTermItem", "()Z"⟩
abbrev cX12_isRoom : ByteArray := prog_14_method_26_code
def yX12_isRoom : MethodName := ⟨RX12, "isRoom", "(I)Z"⟩
abbrev cX12_fault : ByteArray := prog_14_method_27_code
def yX12_fault : MethodName := ⟨RX12, "fault", "(I)I"⟩
abbrev cX12_room : ByteArray := prog_14_method_28_code
def yX12_room : MethodName := ⟨RX12, "room", "(I)I"⟩
abbrev cX12_isGlass : ByteArray := prog_14_method_29_code
def yX12_isGlass : MethodName := ⟨RX12, "isGlass", "(I)Z"⟩
abbrev cX12_isStep : ByteArray := prog_14_method_30_code
def yX12_isStep : MethodName := ⟨RX12, "isStep", "(I)Z"⟩
abbrev cX12_mirrored : ByteArray := prog_14_method_31_code
def yX12_mirrored : MethodName := ⟨RX12, "mirrored", "(I)I"⟩
abbrev cX12_showsBy : ByteArray := prog_14_method_32_code
def yX12_showsBy : MethodName := ⟨RX12, "showsBy", "(II[II)I"⟩
abbrev cX12_showsOf : ByteArray := prog_14_method_33_code
def yX12_showsOf : MethodName := ⟨RX12, "showsOf", "(I[II)I"⟩
abbrev cX12_termBy : ByteArray := prog_14_method_34_code
def yX12_termBy : MethodName := ⟨RX12, "termBy", "(II)I"⟩
abbrev cX12_shownOf : ByteArray := prog_14_method_35_code
def yX12_shownOf : MethodName := ⟨RX12, "shownOf", "(I)I"⟩
abbrev cX12_brokenBy : ByteArray := prog_14_method_36_code
def yX12_brokenBy : MethodName := ⟨RX12, "brokenBy", "(I)I"⟩
abbrev cX12_isOf : ByteArray := prog_14_method_37_code
def yX12_isOf : MethodName := ⟨RX12, "isOf", "(II)Z"⟩
abbrev cX12_glass : ByteArray := prog_14_method_38_code
def yX12_glass : MethodName := ⟨RX12, "glass", "(II)I"⟩
abbrev cX12_mark : ByteArray := prog_14_method_39_code
def yX12_mark : MethodName := ⟨RX12, "mark", "(II)I"⟩
abbrev cX12_habit : ByteArray := prog_14_method_40_code
def yX12_habit : MethodName := ⟨RX12, "habit", "(I)I"⟩
abbrev cX12_term : ByteArray := prog_14_method_41_code
def yX12_term : MethodName := ⟨RX12, "term", "(II)I"⟩
abbrev cX12_doStep : ByteArray := prog_14_method_42_code
def yX12_doStep : MethodName := ⟨RX12, "doStep", "(II)I"⟩
abbrev cX12_step : ByteArray := prog_14_method_43_code
def yX12_step : MethodName := ⟨RX12, "step", "(II)I"⟩
abbrev cX12_deed : ByteArray := prog_14_method_44_code
def yX12_deed : MethodName := ⟨RX12, "deed", "(II)I"⟩
abbrev cX12_brokenMany : ByteArray := prog_14_method_45_code
def yX12_brokenMany : MethodName := ⟨RX12, "brokenMany", "()I"⟩
abbrev cX12_broken : ByteArray := prog_14_method_46_code
def yX12_broken : MethodName := ⟨RX12, "broken", "()I"⟩
abbrev cX12_undo : ByteArray := prog_14_method_47_code
def yX12_undo : MethodName := ⟨RX12, "undo", "(I)I"⟩
abbrev cX12_keep : ByteArray := prog_14_method_48_code
def yX12_keep : MethodName := ⟨RX12, "keep", "(I)I"⟩
abbrev cX12_on : ByteArray := prog_14_method_49_code
def yX12_on : MethodName := ⟨RX12, "on", "(I)I"⟩
abbrev cX12_takeOut : ByteArray := prog_14_method_50_code
def yX12_takeOut : MethodName := ⟨RX12, "takeOut", "(II[I)I"⟩
abbrev cX12_takeTwo : ByteArray := prog_14_method_51_code
def yX12_takeTwo : MethodName := ⟨RX12, "takeTwo", "(II)I"⟩
abbrev cX12_layRow : ByteArray := prog_14_method_52_code
def yX12_layRow : MethodName := ⟨RX12, "layRow", "(II[I)I"⟩
abbrev cX12_show : ByteArray := prog_14_method_53_code
def yX12_show : MethodName := ⟨RX12, "show", "(III)I"⟩
abbrev cX12_breaksAt : ByteArray := prog_14_method_54_code
def yX12_breaksAt : MethodName := ⟨RX12, "breaksAt", "(II)Z"⟩
abbrev cX12_breaks : ByteArray := prog_14_method_55_code
def yX12_breaks : MethodName := ⟨RX12, "breaks", "(II)I"⟩
abbrev cX12_alike : ByteArray := prog_14_method_56_code
def yX12_alike : MethodName := ⟨RX12, "alike", "(II)I"⟩
abbrev cX12_fit : ByteArray := prog_14_method_57_code
def yX12_fit : MethodName := ⟨RX12, "fit", "(II)I"⟩
abbrev cX12_rowsOf : ByteArray := prog_14_method_58_code
def yX12_rowsOf : MethodName := ⟨RX12, "rowsOf", "(I)I"⟩
abbrev cX12_layDoings : ByteArray := prog_14_method_59_code
def yX12_layDoings : MethodName := ⟨RX12, "layDoings", "(II)V"⟩
abbrev cX12_shows : ByteArray := prog_14_method_60_code
def yX12_shows : MethodName := ⟨RX12, "shows", "(II)Z"⟩
abbrev cX12_ways : ByteArray := prog_14_method_61_code
def yX12_ways : MethodName := ⟨RX12, "ways", "(II)I"⟩
abbrev cX12_first : ByteArray := prog_14_method_62_code
def yX12_first : MethodName := ⟨RX12, "first", "(III)I"⟩
abbrev cX12_can : ByteArray := prog_14_method_63_code
def yX12_can : MethodName := ⟨RX12, "can", "(III)I"⟩
abbrev cX12_lawsOf : ByteArray := prog_14_method_64_code
def yX12_lawsOf : MethodName := ⟨RX12, "lawsOf", "(I)I"⟩
abbrev cX12_laws : ByteArray := prog_14_method_65_code
def yX12_laws : MethodName := ⟨RX12, "laws", "(II)I"⟩
abbrev cX12_bits : ByteArray := prog_14_method_66_code
def yX12_bits : MethodName := ⟨RX12, "bits", "(I)I"⟩
abbrev cX12_next : ByteArray := prog_14_method_67_code
def yX12_next : MethodName := ⟨RX12, "next", "(II)I"⟩
abbrev cX12_he : ByteArray := prog_14_method_68_code
def yX12_he : MethodName := ⟨RX12, "he", "(III)I"⟩
abbrev cX12_breaksNone : ByteArray := prog_14_method_69_code
def yX12_breaksNone : MethodName := ⟨RX12, "breaksNone", "(II)Z"⟩
abbrev cX12_keeps : ByteArray := prog_14_method_70_code
def yX12_keeps : MethodName := ⟨RX12, "keeps", "(II)I"⟩
abbrev cX12_still : ByteArray := prog_14_method_71_code
def yX12_still : MethodName := ⟨RX12, "still", "(II)I"⟩
abbrev cX12_isSafe : ByteArray := prog_14_method_72_code
def yX12_isSafe : MethodName := ⟨RX12, "isSafe", "(I)Z"⟩
abbrev cX12_gameBy : ByteArray := prog_14_method_73_code
def yX12_gameBy : MethodName := ⟨RX12, "gameBy", "(I)I"⟩
abbrev cX12_game : ByteArray := prog_14_method_74_code
def yX12_game : MethodName := ⟨RX12, "game", "(I)I"⟩
abbrev cX12_picks : ByteArray := prog_14_method_75_code
def yX12_picks : MethodName := ⟨RX12, "picks", "(I)I"⟩
abbrev cX12_odds : ByteArray := prog_14_method_76_code
def yX12_odds : MethodName := ⟨RX12, "odds", "(III)I"⟩
abbrev cX12_mid : ByteArray := prog_14_method_77_code
def yX12_mid : MethodName := ⟨RX12, "mid", "(III)I"⟩
abbrev cX12_lots : ByteArray := prog_14_method_78_code
def yX12_lots : MethodName := ⟨RX12, "lots", "(II)I"⟩
abbrev cX12_asked : ByteArray := prog_14_method_79_code
def yX12_asked : MethodName := ⟨RX12, "asked", "()I"⟩
abbrev cX12_upper : ByteArray := prog_14_method_80_code
def yX12_upper : MethodName := ⟨RX12, "upper", "()J"⟩
abbrev cX12_lower : ByteArray := prog_14_method_81_code
def yX12_lower : MethodName := ⟨RX12, "lower", "()J"⟩
abbrev cX12_kindsOf : ByteArray := prog_14_method_82_code
def yX12_kindsOf : MethodName := ⟨RX12, "kindsOf", "(I)I"⟩
abbrev cX12_thereOf : ByteArray := prog_14_method_83_code
def yX12_thereOf : MethodName := ⟨RX12, "thereOf", "([II)I"⟩
abbrev cX12_countOf : ByteArray := prog_14_method_84_code
def yX12_countOf : MethodName := ⟨RX12, "countOf", "(I)I"⟩
abbrev cX12_count : ByteArray := prog_14_method_85_code
def yX12_count : MethodName := ⟨RX12, "count", "(I)I"⟩
abbrev cX12_finding : ByteArray := prog_14_method_86_code
def yX12_finding : MethodName := ⟨RX12, "finding", "()I"⟩
abbrev cX12_findings : ByteArray := prog_14_method_87_code
def yX12_findings : MethodName := ⟨RX12, "findings", "(I)I"⟩
abbrev cX12_add : ByteArray := prog_14_method_88_code
def yX12_add : MethodName := ⟨RX12, "add", "(I)V"⟩
abbrev cX12_digest : ByteArray := prog_14_method_89_code
def yX12_digest : MethodName := ⟨RX12, "digest", "()J"⟩
def RJ6 : String := "java/lang/Integer"
abbrev cJ6_bitCount_0f7a4 : ByteArray := prog_15_method_49_code
def yJ6_bitCount_0f7a4 : MethodName := ⟨RJ6, "bitCount", "(I)I"⟩
def RJ9 : String := "java/lang/Math"
def RJ10 : String := "java/lang/System"
def RL : String := "LimpMirrorLaw"
abbrev cL_law : ByteArray := code
def yL_law : MethodName := ⟨RL, "law", "([I)Z"⟩
abbrev vwCl : List vw_C := [(RX0, TX0, 2), (RX1, TX1, 5), (RX2, TX2, 2), (RX4, TX4, 2), (RX5, TX5, 2), (RX6, TX6, 2), (RX7, TX7, 2), (RX8, TX8, 5), (RX9, TX9, 2), (RX10, TX10, 2), (RX11, TX11, 16), (RX12, TX12, 32)]
end
section
/-! A PURE MACHINE for the printed instructions: cells by their numbers, ints that may be unknown within bounds. -/
abbrev xC : Type := Nat × List Value
abbrev xM : Type := List xC
abbrev xL : Type := List (Nat × Value)
abbrev xO : Type := Option Value × xM × Nat × Nat
abbrev xI : Type := List (List (Nat × Instr × Nat))
/-- the length of an instruction (a switch's stands in its row) -/
def xe_len (i : Instr) (l : Nat) : Nat := match i with
  | .tableswitch _ _ _ _ => l
  | .bipush _ | .iload _ | .aload _ | .lload _ | .istore _ | .astore _ | .lstore _ | .ldc _ | .newarray _ => 2
  | .sipush _ | .ldc_w _ | .ldc2_w _ | .getfield _ | .putfield _ | .getstatic _ | .goto _ | .if_icmp _ _ | .ifCond _ _ | .iinc _ _ | .invokespecial _ | .invokestatic _ | .invokevirtual _ | .new _ | .anewarray _ => 3
  | _ => 1
def xe_lk (tb : xI) (pc : Nat) : Option (Instr × Nat) := match tb[pc / 16]? with
  | none => none
  | some b => match b.find? (fun q => q.1 == pc) with
    | none => none
    | some q => some q.2
def xe_ok (cc : ByteArray) (tb : xI) : Bool := tb.all fun b => b.all fun q => decide (decode cc q.1 = .ok (q.2.1, xe_len q.2.1 q.2.2))
theorem xe_ok_lk {cc : ByteArray} {tb : xI} (h : xe_ok cc tb = true) {pc : Nat} {i : Instr} {l : Nat} (hl : xe_lk tb pc = some (i, l)) : decode cc pc = .ok (i, xe_len i l) := by
  unfold xe_lk at hl
  split at hl
  · cases hl
  · rename_i b hb
    split at hl
    · cases hl
    · rename_i q hq
      have hq2 : q.2 = (i, l) := Option.some.inj hl
      have h1 := List.all_eq_true.mp h b (List.mem_of_getElem? hb)
      have h2 := List.all_eq_true.mp h1 q (List.mem_of_find?_eq_some hq)
      have h3 : q.1 = pc := by simpa using List.find?_some hq
      rw [← h3]
      have h4 := of_decide_eq_true h2
      rw [hq2] at h4
      exact h4
/-- values as the machine has them: a cell's number from B on, an unknown int, an unknown int made long, the script -/
def xe_cv (b : Nat → Nat) (B : Nat) (xs : Nat → Int32) : Value → Value
  | .int v => .int v
  | .long v => .long v
  | .null => .null
  | .ref k => .ref (B + k)
  | .float j => .int (xs j.toNat)
  | .double j => .long (xs j.toNat).toInt64
  | .retAddr n => .ref (b n)
theorem xe_cat (b : Nat → Nat) (B : Nat) (xs : Nat → Int32) (v : Value) : (xe_cv b B xs v).category = v.category := by cases v <;> rfl
def xe_in (iv : List (Int32 × Int32)) (xs : Nat → Int32) : Prop := ∀ (j : Nat) (q : Int32 × Int32), iv[j]? = some q → q.1 ≤ xs j ∧ xs j ≤ q.2
/-- a < b, by the bounds where one is unknown -/
def xe_lt (iv : List (Int32 × Int32)) (x y : Value) : Option Bool := match x, y with
  | .int a, .int b => some (decide (a < b))
  | .float j, .int b => match iv[j.toNat]? with
    | some q => if q.2 < b then some true else if b ≤ q.1 then some false else none
    | none => none
  | .int a, .float j => match iv[j.toNat]? with
    | some q => if a < q.1 then some true else if q.2 ≤ a then some false else none
    | none => none
  | _, _ => none
def xe_eq (iv : List (Int32 × Int32)) (x y : Value) : Option Bool := match x, y with
  | .int a, .int b => some (decide (a = b))
  | .float j, .int b => match iv[j.toNat]? with
    | some q => if q.2 < b then some false else if b < q.1 then some false else none
    | none => none
  | .int a, .float j => match iv[j.toNat]? with
    | some q => if a < q.1 then some false else if q.2 < a then some false else none
    | none => none
  | _, _ => none
def xe_cmp (iv : List (Int32 × Int32)) (k : ClassFile.Cond) (x y : Value) : Option Bool := match k with
  | .eq => xe_eq iv x y
  | .ne => match xe_eq iv x y with
    | some b => some (!b)
    | none => none
  | .lt => xe_lt iv x y
  | .ge => match xe_lt iv x y with
    | some b => some (!b)
    | none => none
  | .gt => xe_lt iv y x
  | .le => match xe_lt iv y x with
    | some b => some (!b)
    | none => none
def xe_holds (k : ClassFile.Cond) (x y : Int32) : Bool := match k with
  | .eq => decide (x = y)
  | .ne => decide (¬ x = y)
  | .lt => decide (x < y)
  | .ge => decide (y ≤ x)
  | .gt => decide (y < x)
  | .le => decide (x ≤ y)
section
variable {iv : List (Int32 × Int32)} {xs : Nat → Int32} {b : Nat → Nat} {B : Nat}
theorem xe_lt_ok (hi : xe_in iv xs) {x y : Value} {r : Bool} (h : xe_lt iv x y = some r) : ∃ a c, xe_cv b B xs x = .int a ∧ xe_cv b B xs y = .int c ∧ decide (a < c) = r := by
  unfold xe_lt at h
  split at h
  · cases h
    exact ⟨_, _, rfl, rfl, rfl⟩
  · split at h
    · rename_i j c q hq
      have h1 := hi _ q hq
      refine ⟨_, _, rfl, rfl, ?_⟩
      rw [Int32.le_iff_toInt_le, Int32.le_iff_toInt_le] at h1
      split at h
      · rename_i h2
        cases h
        rw [Int32.lt_iff_toInt_lt] at h2
        exact decide_eq_true (Int32.lt_iff_toInt_lt.mpr (by omega))
      · split at h
        · rename_i h2 h3
          cases h
          rw [Int32.le_iff_toInt_le] at h3
          exact decide_eq_false (fun h4 => by rw [Int32.lt_iff_toInt_lt] at h4; omega)
        · cases h
    · cases h
  · split at h
    · rename_i c j q hq
      have h1 := hi _ q hq
      refine ⟨_, _, rfl, rfl, ?_⟩
      rw [Int32.le_iff_toInt_le, Int32.le_iff_toInt_le] at h1
      split at h
      · rename_i h2
        cases h
        rw [Int32.lt_iff_toInt_lt] at h2
        exact decide_eq_true (Int32.lt_iff_toInt_lt.mpr (by omega))
      · split at h
        · rename_i h2 h3
          cases h
          rw [Int32.le_iff_toInt_le] at h3
          exact decide_eq_false (fun h4 => by rw [Int32.lt_iff_toInt_lt] at h4; omega)
        · cases h
    · cases h
  · cases h
theorem xe_eq_ok (hi : xe_in iv xs) {x y : Value} {r : Bool} (h : xe_eq iv x y = some r) : ∃ a c, xe_cv b B xs x = .int a ∧ xe_cv b B xs y = .int c ∧ decide (a = c) = r := by
  unfold xe_eq at h
  split at h
  · cases h
    exact ⟨_, _, rfl, rfl, rfl⟩
  · split at h
    · rename_i j c q hq
      have h1 := hi _ q hq
      refine ⟨_, _, rfl, rfl, ?_⟩
      rw [Int32.le_iff_toInt_le, Int32.le_iff_toInt_le] at h1
      split at h
      · rename_i h2
        cases h
        rw [Int32.lt_iff_toInt_lt] at h2
        exact decide_eq_false (fun h4 => by rw [← Int32.toInt_inj] at h4; omega)
      · split at h
        · rename_i h2 h3
          cases h
          rw [Int32.lt_iff_toInt_lt] at h3
          exact decide_eq_false (fun h4 => by rw [← Int32.toInt_inj] at h4; omega)
        · cases h
    · cases h
  · split at h
    · rename_i c j q hq
      have h1 := hi _ q hq
      refine ⟨_, _, rfl, rfl, ?_⟩
      rw [Int32.le_iff_toInt_le, Int32.le_iff_toInt_le] at h1
      split at h
      · rename_i h2
        cases h
        rw [Int32.lt_iff_toInt_lt] at h2
        exact decide_eq_false (fun h4 => by rw [← Int32.toInt_inj] at h4; omega)
      · split at h
        · rename_i h2 h3
          cases h
          rw [Int32.lt_iff_toInt_lt] at h3
          exact decide_eq_false (fun h4 => by rw [← Int32.toInt_inj] at h4; omega)
        · cases h
    · cases h
  · cases h
theorem xe_cmp_ok (hi : xe_in iv xs) {k : ClassFile.Cond} {x y : Value} {r : Bool} (h : xe_cmp iv k x y = some r) : ∃ a c, xe_cv b B xs x = .int a ∧ xe_cv b B xs y = .int c ∧ xe_holds k a c = r := by
  unfold xe_cmp at h
  cases k with
  | eq => exact xe_eq_ok hi h
  | ne =>
    dsimp only at h
    split at h
    · rename_i r' hr
      cases h
      obtain ⟨a, c, h1, h2, h3⟩ := xe_eq_ok (b := b) (B := B) hi hr
      exact ⟨a, c, h1, h2, by rw [← h3]; unfold xe_holds; by_cases q : a = c <;> simp [q]⟩
    · cases h
  | lt => exact xe_lt_ok hi h
  | ge =>
    dsimp only at h
    split at h
    · rename_i r' hr
      cases h
      obtain ⟨a, c, h1, h2, h3⟩ := xe_lt_ok (b := b) (B := B) hi hr
      exact ⟨a, c, h1, h2, by rw [← h3]; unfold xe_holds; by_cases q : a < c <;> simp [q, Int32.not_lt.mp, Int32.not_le.mpr]⟩
    · cases h
  | gt =>
    obtain ⟨a, c, h1, h2, h3⟩ := xe_lt_ok (b := b) (B := B) hi h
    exact ⟨c, a, h2, h1, h3⟩
  | le =>
    dsimp only at h
    split at h
    · rename_i r' hr
      cases h
      obtain ⟨a, c, h1, h2, h3⟩ := xe_lt_ok (b := b) (B := B) hi hr
      exact ⟨c, a, h2, h1, by rw [← h3]; unfold xe_holds; by_cases q : a < c <;> simp [q, Int32.not_lt.mp, Int32.not_le.mpr]⟩
    · cases h
end
end
section
/-! the words that are kept, by their places -/
def xWC : List (List Cond) := [k2_sels lw_privs, tables_1_1, tables_1_2, tables_1_3, tables_1_4, tables_1_5, tables_1_6]
def xw (q : Nat) : Option Cond := match xWC[q / 1000]? with
  | some r => r[q % 1000]?
  | none => none
def xWS : List Cond := lw_tbl.filter goodWord
theorem xWC_in : ∀ r ∈ xWC, ∀ w ∈ r, w ∈ lw_tbl := List.forall_mem_cons.mpr ⟨fun w h => List.mem_append_left _ h, List.forall_mem_cons.mpr ⟨fun w h => List.mem_append_right _ (List.mem_append_left _ h), List.forall_mem_cons.mpr ⟨fun w h => List.mem_append_right _ (List.mem_append_right _ (List.mem_append_left _ h)), List.forall_mem_cons.mpr ⟨fun w h => List.mem_append_right _ (List.mem_append_right _ (List.mem_append_right _ (List.mem_append_left _ h))), List.forall_mem_cons.mpr ⟨fun w h => List.mem_append_right _ (List.mem_append_right _ (List.mem_append_right _ (List.mem_append_right _ (List.mem_append_left _ h)))), List.forall_mem_cons.mpr ⟨fun w h => List.mem_append_right _ (List.mem_append_right _ (List.mem_append_right _ (List.mem_append_right _ (List.mem_append_right _ (List.mem_append_left _ h))))), List.forall_mem_cons.mpr ⟨fun w h => List.mem_append_right _ (List.mem_append_right _ (List.mem_append_right _ (List.mem_append_right _ (List.mem_append_right _ (List.mem_append_right _ (h)))))), fun _ h => absurd h List.not_mem_nil⟩⟩⟩⟩⟩⟩⟩
theorem xw_in {q : Nat} {w : Cond} (h : xw q = some w) : w ∈ lw_tbl := by
  unfold xw at h
  split at h
  · rename_i r hr
    exact xWC_in r (List.mem_of_getElem? hr) w (List.mem_of_getElem? h)
  · cases h
theorem xw_mem {q : Nat} {w : Cond} (h : xw q = some w) (hg : goodWord w = true) : w ∈ xWS := List.mem_filter.mpr ⟨xw_in h, hg⟩
theorem xWS_good {c : Cond} (hc : c ∈ xWS) : GoodIn xWS (c :: xWS) := fun w h => by
  have h1 : w ∈ xWS := (List.mem_cons.mp h).elim (fun e => e ▸ hc) id
  exact ⟨h1, good_of_word (List.mem_filter.mp h1).2⟩
theorem mw_0 : Cond.fieldLink RX11 11 "LimpMirror" "rows" "[LLimpMirror$Cells;" ∈ xWS := xw_mem (q := 1170) rfl rfl
theorem mw_1 : Cond.fieldLink RX11 15 "LimpMirror" "texts" "[LLimpMirror$Cells;" ∈ xWS := xw_mem (q := 1171) rfl rfl
theorem mw_2 : Cond.fieldLink RX11 20 "LimpMirror" "panes" "[LLimpMirror$Pane;" ∈ xWS := xw_mem (q := 1172) rfl rfl
theorem mw_3 : Cond.fieldLink RX11 27 "LimpMirror" "deeds" "LLimpMirror$Deeds;" ∈ xWS := xw_mem (q := 1173) rfl rfl
theorem mw_4 : Cond.fieldLink RX11 31 "LimpMirror" "kept" "[LLimpMirror$Deeds;" ∈ xWS := xw_mem (q := 1174) rfl rfl
theorem mw_5 : Cond.fieldLink RX11 38 "LimpMirror" "room" "LLimpMirror$Room;" ∈ xWS := xw_mem (q := 1175) rfl rfl
theorem mw_6 : Cond.fieldLink RX11 42 "LimpMirror" "draft" "LLimpMirror$Room;" ∈ xWS := xw_mem (q := 1176) rfl rfl
theorem mw_7 : Cond.fieldLink RX11 48 "LimpMirror" "trial" "LLimpMirror$Cells;" ∈ xWS := xw_mem (q := 1177) rfl rfl
theorem mw_8 : Cond.fieldLink RX11 52 "LimpMirror" "sets" "[I" ∈ xWS := xw_mem (q := 1178) rfl rfl
theorem mw_9 : Cond.fieldLink RX11 56 "LimpMirror" "tally" "[I" ∈ xWS := xw_mem (q := 1179) rfl rfl
theorem mw_10 : Cond.fieldLink RX11 62 "LimpMirror" "chains" "LLimpMirror$Chains;" ∈ xWS := xw_mem (q := 1180) rfl rfl
theorem mw_11 : Cond.fieldLink RX11 66 "LimpMirror" "told" "I" ∈ xWS := xw_mem (q := 1181) rfl rfl
theorem mw_12 : Cond.fieldLink RX11 70 "LimpMirror" "over" "J" ∈ xWS := xw_mem (q := 1182) rfl rfl
theorem mw_13 : Cond.fieldLink RX11 74 "LimpMirror" "under" "J" ∈ xWS := xw_mem (q := 1183) rfl rfl
theorem mw_14 : Cond.fieldLink RX11 77 "LimpMirror" "latestFinding" "I" ∈ xWS := xw_mem (q := 1184) rfl rfl
theorem mw_15 : Cond.fieldLink RX11 80 "LimpMirror" "findingCounts" "[I" ∈ xWS := xw_mem (q := 1185) rfl rfl
theorem mw_16 : Cond.fieldLink RX2 11 "LimpMirror$Deeds" "facts" "[I" ∈ xWS := xw_mem (q := 1038) rfl rfl
theorem mw_17 : Cond.fieldLink RX2 15 "LimpMirror$Deeds" "size" "I" ∈ xWS := xw_mem (q := 1039) rfl rfl
theorem mw_18 : Cond.fieldLink RX8 9 "LimpMirror$Room" "habits" "[I" ∈ xWS := xw_mem (q := 1053) rfl rfl
theorem mw_19 : Cond.fieldLink RX8 15 "LimpMirror$Room" "glassLaws" "[I" ∈ xWS := xw_mem (q := 1054) rfl rfl
theorem mw_20 : Cond.fieldLink RX8 18 "LimpMirror$Room" "glasses" "I" ∈ xWS := xw_mem (q := 1055) rfl rfl
theorem mw_21 : Cond.fieldLink RX8 22 "LimpMirror$Room" "termSteps" "[I" ∈ xWS := xw_mem (q := 1056) rfl rfl
theorem mw_22 : Cond.fieldLink RX8 25 "LimpMirror$Room" "terms" "I" ∈ xWS := xw_mem (q := 1057) rfl rfl
theorem mw_23 : Cond.fieldLink RX0 9 "LimpMirror$Cells" "size" "I" ∈ xWS := xw_mem (q := 1078) rfl rfl
theorem mw_24 : Cond.fieldLink RX0 21 "LimpMirror$Cells" "cells" "[I" ∈ xWS := xw_mem (q := 1077) rfl rfl
theorem mw_25 : Cond.fieldLink RX1 9 "LimpMirror$Chains" "rowsFrom" "[I" ∈ xWS := xw_mem (q := 1090) rfl rfl
theorem mw_26 : Cond.fieldLink RX1 15 "LimpMirror$Chains" "stillFrom" "[I" ∈ xWS := xw_mem (q := 1091) rfl rfl
theorem mw_27 : Cond.fieldLink RX1 18 "LimpMirror$Chains" "rows" "I" ∈ xWS := xw_mem (q := 1092) rfl rfl
theorem mw_28 : Cond.fieldLink RX1 22 "LimpMirror$Chains" "fewest" "I" ∈ xWS := xw_mem (q := 1093) rfl rfl
theorem mw_29 : Cond.fieldLink RX1 25 "LimpMirror$Chains" "firsts" "I" ∈ xWS := xw_mem (q := 1094) rfl rfl
theorem mw_30 : Cond.fieldLink RX7 9 "LimpMirror$Pane" "kind" "I" ∈ xWS := xw_mem (q := 1118) rfl rfl
theorem mw_31 : Cond.fieldLink RX7 15 "LimpMirror$Pane" "delay" "I" ∈ xWS := xw_mem (q := 1119) rfl rfl
theorem mw_32 : Cond.fieldLink RX12 7 "LimpMirrorModel" "rowSize" "[I" ∈ xWS := xw_mem (q := 4101) rfl rfl
theorem mw_33 : Cond.fieldLink RX12 13 "LimpMirrorModel" "rowAt" "[I" ∈ xWS := xw_mem (q := 4102) rfl rfl
theorem mw_34 : Cond.fieldLink RX12 16 "LimpMirrorModel" "textSize" "[I" ∈ xWS := xw_mem (q := 4103) rfl rfl
theorem mw_35 : Cond.fieldLink RX12 19 "LimpMirrorModel" "textAt" "[I" ∈ xWS := xw_mem (q := 4104) rfl rfl
theorem mw_36 : Cond.fieldLink RX12 22 "LimpMirrorModel" "readHabit" "[I" ∈ xWS := xw_mem (q := 4105) rfl rfl
theorem mw_37 : Cond.fieldLink RX12 25 "LimpMirrorModel" "readGlass" "[I" ∈ xWS := xw_mem (q := 4107) rfl rfl
theorem mw_38 : Cond.fieldLink RX12 28 "LimpMirrorModel" "readTerm" "[I" ∈ xWS := xw_mem (q := 4109) rfl rfl
theorem mw_39 : Cond.fieldLink RX12 31 "LimpMirrorModel" "habits" "[I" ∈ xWS := xw_mem (q := 4110) rfl rfl
theorem mw_40 : Cond.fieldLink RX12 34 "LimpMirrorModel" "glassAt" "[I" ∈ xWS := xw_mem (q := 4112) rfl rfl
theorem mw_41 : Cond.fieldLink RX12 37 "LimpMirrorModel" "termAt" "[I" ∈ xWS := xw_mem (q := 4114) rfl rfl
theorem mw_42 : Cond.fieldLink RX12 40 "LimpMirrorModel" "did" "[I" ∈ xWS := xw_mem (q := 4116) rfl rfl
theorem mw_43 : Cond.fieldLink RX12 43 "LimpMirrorModel" "before" "[I" ∈ xWS := xw_mem (q := 4117) rfl rfl
theorem mw_44 : Cond.fieldLink RX12 46 "LimpMirrorModel" "keptMany" "[I" ∈ xWS := xw_mem (q := 4118) rfl rfl
theorem mw_45 : Cond.fieldLink RX12 49 "LimpMirrorModel" "keptDid" "[I" ∈ xWS := xw_mem (q := 4119) rfl rfl
theorem mw_46 : Cond.fieldLink RX12 52 "LimpMirrorModel" "keptBefore" "[I" ∈ xWS := xw_mem (q := 4120) rfl rfl
theorem mw_47 : Cond.fieldLink RX12 55 "LimpMirrorModel" "lower" "J" ∈ xWS := xw_mem (q := 4123) rfl rfl
theorem mw_48 : Cond.fieldLink RX12 59 "LimpMirrorModel" "times" "[I" ∈ xWS := xw_mem (q := 4125) rfl rfl
theorem mw_49 : Cond.fieldLink RX12 62 "LimpMirrorModel" "doings" "[I" ∈ xWS := xw_mem (q := 4126) rfl rfl
theorem mw_50 : Cond.fieldLink RX12 65 "LimpMirrorModel" "other" "[I" ∈ xWS := xw_mem (q := 4127) rfl rfl
theorem mw_51 : Cond.fieldLink RX12 68 "LimpMirrorModel" "shown" "[I" ∈ xWS := xw_mem (q := 4128) rfl rfl
theorem mw_52 : Cond.fieldLink RX12 71 "LimpMirrorModel" "found" "I" ∈ xWS := xw_mem (q := 4124) rfl rfl
theorem mw_53 : Cond.fieldLink RX12 75 "LimpMirrorModel" "asked" "I" ∈ xWS := xw_mem (q := 4121) rfl rfl
theorem mw_54 : Cond.fieldLink RX12 106 "LimpMirrorModel" "position" "I" ∈ xWS := xw_mem (q := 4129) rfl rfl
theorem mw_55 : Cond.fieldLink RX12 112 "LimpMirrorModel" "from" "I" ∈ xWS := xw_mem (q := 4130) rfl rfl
theorem mw_56 : Cond.fieldLink RX12 109 "LimpMirrorModel" "size" "I" ∈ xWS := xw_mem (q := 4131) rfl rfl
theorem mw_57 : Cond.fieldLink RX12 125 "LimpMirrorModel" "readGlasses" "I" ∈ xWS := xw_mem (q := 4106) rfl rfl
theorem mw_58 : Cond.fieldLink RX12 128 "LimpMirrorModel" "readTerms" "I" ∈ xWS := xw_mem (q := 4108) rfl rfl
theorem mw_59 : Cond.fieldLink RX12 147 "LimpMirrorModel" "glasses" "I" ∈ xWS := xw_mem (q := 4111) rfl rfl
theorem mw_60 : Cond.fieldLink RX12 150 "LimpMirrorModel" "terms" "I" ∈ xWS := xw_mem (q := 4113) rfl rfl
theorem mw_61 : Cond.fieldLink RX12 153 "LimpMirrorModel" "deeds" "I" ∈ xWS := xw_mem (q := 4115) rfl rfl
theorem mw_62 : Cond.fieldLink RX12 78 "LimpMirrorModel" "upper" "J" ∈ xWS := xw_mem (q := 4122) rfl rfl
theorem mw_63 : Cond.fieldLink RX12 260 "LimpMirrorModel" "mix" "J" ∈ xWS := xw_mem (q := 4132) rfl rfl
theorem mw_64 : Cond.code yX0_init cX0_init 2 none ∈ xWS := xw_mem (q := 1072) rfl rfl
theorem mw_65 : Cond.initialized RX0 ∈ xWS := xw_mem (q := 1005) rfl rfl
theorem mw_66 : Cond.code yX0_isMissing cX0_isMissing 1 (some .boolean) ∈ xWS := xw_mem (q := 2007) rfl rfl
theorem mw_67 : Cond.code yX0_size cX0_size 1 (some .int) ∈ xWS := xw_mem (q := 2056) rfl rfl
theorem mw_68 : Cond.code yX0_has cX0_has 2 (some .boolean) ∈ xWS := xw_mem (q := 2011) rfl rfl
theorem mw_69 : Cond.code yX0_hasPlaces cX0_hasPlaces 3 (some .boolean) ∈ xWS := xw_mem (q := 2040) rfl rfl
theorem mw_70 : Cond.code yX0_get cX0_get 2 (some .int) ∈ xWS := xw_mem (q := 2015) rfl rfl
theorem mw_71 : Cond.code yX0_set cX0_set 3 none ∈ xWS := xw_mem (q := 2020) rfl rfl
theorem mw_72 : Cond.code yX0_open cX0_open 4 none ∈ xWS := xw_mem (q := 1233) rfl rfl
theorem mw_73 : Cond.code yX0_drop cX0_drop 1 none ∈ xWS := xw_mem (q := 2032) rfl rfl
theorem mw_74 : Cond.code yX0_take cX0_take 5 none ∈ xWS := xw_mem (q := 2044) rfl rfl
theorem mw_75 : Cond.code yX0_takeAll cX0_takeAll 2 none ∈ xWS := xw_mem (q := 3132) rfl rfl
theorem mw_76 : Cond.code yX0_stepAt cX0_stepAt 2 (some .int) ∈ xWS := xw_mem (q := 2230) rfl rfl
theorem mw_77 : Cond.code yX1_init cX1_init 1 none ∈ xWS := xw_mem (q := 1088) rfl rfl
theorem mw_78 : Cond.initialized RX1 ∈ xWS := xw_mem (q := 1007) rfl rfl
theorem mw_79 : Cond.code yX1_rows cX1_rows 1 (some .int) ∈ xWS := xw_mem (q := 4000) rfl rfl
theorem mw_80 : Cond.code yX1_fewestStill cX1_fewestStill 1 (some .int) ∈ xWS := xw_mem (q := 4012) rfl rfl
theorem mw_81 : Cond.code yX1_firstSteps cX1_firstSteps 1 (some .int) ∈ xWS := xw_mem (q := 4004) rfl rfl
theorem mw_82 : Cond.code yX1_weigh cX1_weigh 7 none ∈ xWS := xw_mem (q := 3215) rfl rfl
theorem mw_83 : Cond.code yX1_isHead cX1_isHead 3 (some .boolean) ∈ xWS := xw_mem (q := 3229) rfl rfl
theorem mw_84 : Cond.code yX1_heirOf cX1_heirOf 4 (some .int) ∈ xWS := xw_mem (q := 3219) rfl rfl
theorem mw_85 : Cond.code yX1_weighStep cX1_weighStep 10 none ∈ xWS := xw_mem (q := 3224) rfl rfl
theorem mw_86 : Cond.code yX1_shownAtHead cX1_shownAtHead 4 (some .int) ∈ xWS := xw_mem (q := 3232) rfl rfl
theorem mw_87 : Cond.code yX1_addChain cX1_addChain 6 none ∈ xWS := xw_mem (q := 3236) rfl rfl
theorem mw_88 : Cond.code yX2_init cX2_init 1 none ∈ xWS := xw_mem (q := 1033) rfl rfl
theorem mw_89 : Cond.initialized RX2 ∈ xWS := xw_mem (q := 1003) rfl rfl
theorem mw_90 : Cond.code yX2_size cX2_size 1 (some .int) ∈ xWS := xw_mem (q := 2173) rfl rfl
theorem mw_91 : Cond.code yX2_isMissing cX2_isMissing 1 (some .boolean) ∈ xWS := xw_mem (q := 3121) rfl rfl
theorem mw_92 : Cond.code yX2_drop cX2_drop 1 none ∈ xWS := xw_mem (q := 1169) rfl rfl
theorem mw_93 : Cond.code yX2_fact cX2_fact 4 (some .int) ∈ xWS := xw_mem (q := 2161) rfl rfl
theorem mw_94 : Cond.code yX2_write cX2_write 4 none ∈ xWS := xw_mem (q := 3071) rfl rfl
theorem mw_95 : Cond.code yX2_add cX2_add 3 none ∈ xWS := xw_mem (q := 3067) rfl rfl
theorem mw_96 : Cond.code yX2_see cX2_see 4 none ∈ xWS := xw_mem (q := 3075) rfl rfl
theorem mw_97 : Cond.code yX2_cutTo cX2_cutTo 2 none ∈ xWS := xw_mem (q := 2109) rfl rfl
theorem mw_98 : Cond.code yX2_takeAll cX2_takeAll 2 none ∈ xWS := xw_mem (q := 3112) rfl rfl
theorem mw_99 : Cond.code yX2_howManyBefore cX2_howManyBefore 4 (some .int) ∈ xWS := xw_mem (q := 2157) rfl rfl
theorem mw_100 : Cond.code yX2_howManyBrokeBefore cX2_howManyBrokeBefore 4 (some .int) ∈ xWS := xw_mem (q := 2165) rfl rfl
theorem mw_101 : Cond.code yX2_howManyBroke cX2_howManyBroke 4 (some .int) ∈ xWS := xw_mem (q := 3097) rfl rfl
theorem mw_102 : Cond.code yX2_firstThatBroke cX2_firstThatBroke 2 (some .int) ∈ xWS := xw_mem (q := 3093) rfl rfl
theorem mw_103 : Cond.code yX2_stepAt cX2_stepAt 2 (some .int) ∈ xWS := xw_mem (q := 2234) rfl rfl
theorem mw_104 : Cond.code yX3_init cX3_init 1 none ∈ xWS := xw_mem (q := 1036) rfl rfl
theorem mw_105 : Cond.initialized RX3 ∈ xWS := xw_mem (q := 1002) rfl rfl
theorem mw_106 : Cond.code yX4_init cX4_init 3 none ∈ xWS := xw_mem (q := 1156) rfl rfl
theorem mw_107 : Cond.initialized RX4 ∈ xWS := xw_mem (q := 1013) rfl rfl
theorem mw_108 : Cond.code yX4_source cX4_source 2 (some .int) ∈ xWS := xw_mem (q := 2200) rfl rfl
theorem mw_109 : Cond.code yX4_thinks cX4_thinks 2 (some .boolean) ∈ xWS := xw_mem (q := 3005) rfl rfl
theorem mw_110 : Cond.code yX5_init cX5_init 3 none ∈ xWS := xw_mem (q := 1113) rfl rfl
theorem mw_111 : Cond.initialized RX5 ∈ xWS := xw_mem (q := 1009) rfl rfl
theorem mw_112 : Cond.code yX5_source cX5_source 2 (some .int) ∈ xWS := xw_mem (q := 2203) rfl rfl
theorem mw_113 : Cond.code yX5_isOf cX5_isOf 2 (some .boolean) ∈ xWS := xw_mem (q := 2184) rfl rfl
theorem mw_114 : Cond.code yX6_init cX6_init 3 none ∈ xWS := xw_mem (q := 1147) rfl rfl
theorem mw_115 : Cond.initialized RX6 ∈ xWS := xw_mem (q := 1012) rfl rfl
theorem mw_116 : Cond.code yX6_source cX6_source 2 (some .int) ∈ xWS := xw_mem (q := 2211) rfl rfl
theorem mw_117 : Cond.code yX6_placesToLimp cX6_placesToLimp 1 (some .int) ∈ xWS := xw_mem (q := 2214) rfl rfl
theorem mw_118 : Cond.code yX7_init cX7_init 3 none ∈ xWS := xw_mem (q := 1116) rfl rfl
theorem mw_119 : Cond.initialized RX7 ∈ xWS := xw_mem (q := 1008) rfl rfl
theorem mw_120 : Cond.code yX7_kind cX7_kind 1 (some .int) ∈ xWS := xw_mem (q := 2143) rfl rfl
theorem mw_121 : Cond.code yX7_delay cX7_delay 1 (some .int) ∈ xWS := xw_mem (q := 2153) rfl rfl
theorem mw_122 : Cond.code yX7_isOf cX7_isOf 2 (some .boolean) ∈ xWS := xw_mem (q := 2189) rfl rfl
theorem mw_123 : Cond.code yX7_source cX7_source 2 (some .int) ∈ xWS := xw_mem (q := 2224) rfl rfl
theorem mw_124 : Cond.code yX7_thinks cX7_thinks 2 (some .boolean) ∈ xWS := xw_mem (q := 3014) rfl rfl
theorem mw_125 : Cond.code yX7_isOdd cX7_isOdd 1 (some .boolean) ∈ xWS := xw_mem (q := 2222) rfl rfl
theorem mw_126 : Cond.code yX8_init cX8_init 1 none ∈ xWS := xw_mem (q := 1051) rfl rfl
theorem mw_127 : Cond.initialized RX8 ∈ xWS := xw_mem (q := 1004) rfl rfl
theorem mw_128 : Cond.code yX8_glasses cX8_glasses 1 (some .int) ∈ xWS := xw_mem (q := 2113) rfl rfl
theorem mw_129 : Cond.code yX8_terms cX8_terms 1 (some .int) ∈ xWS := xw_mem (q := 3051) rfl rfl
theorem mw_130 : Cond.code yX8_lawOf cX8_lawOf 2 (some .int) ∈ xWS := xw_mem (q := 2133) rfl rfl
theorem mw_131 : Cond.code yX8_termStep cX8_termStep 3 (some .int) ∈ xWS := xw_mem (q := 3055) rfl rfl
theorem mw_132 : Cond.code yX8_thought cX8_thought 2 (some .int) ∈ xWS := xw_mem (q := 3018) rfl rfl
theorem mw_133 : Cond.code yX8_seen cX8_seen 5 (some .int) ∈ xWS := xw_mem (q := 2238) rfl rfl
theorem mw_134 : Cond.code yX8_shown cX8_shown 5 (some .int) ∈ xWS := xw_mem (q := 2193) rfl rfl
theorem mw_135 : Cond.code yX8_stepsSeenAs cX8_stepsSeenAs 6 (some .int) ∈ xWS := xw_mem (q := 3029) rfl rfl
theorem mw_136 : Cond.code yX8_firstBroken cX8_firstBroken 4 (some .int) ∈ xWS := xw_mem (q := 3079) rfl rfl
theorem mw_137 : Cond.code yX8_isBroken cX8_isBroken 3 (some .boolean) ∈ xWS := xw_mem (q := 3142) rfl rfl
theorem mw_138 : Cond.code yX8_read cX8_read 4 (some .int) ∈ xWS := xw_mem (q := 2075) rfl rfl
theorem mw_139 : Cond.code yX8_readItems cX8_readItems 7 (some .int) ∈ xWS := xw_mem (q := 2088) rfl rfl
theorem mw_140 : Cond.code yX8_readGlass cX8_readGlass 4 (some .int) ∈ xWS := xw_mem (q := 2096) rfl rfl
theorem mw_141 : Cond.code yX8_readTerm cX8_readTerm 5 (some .int) ∈ xWS := xw_mem (q := 2092) rfl rfl
theorem mw_142 : Cond.code yX8_kindOf cX8_kindOf 2 (some .int) ∈ xWS := xw_mem (q := 2099) rfl rfl
theorem mw_143 : Cond.code yX8_afterBlanks cX8_afterBlanks 3 (some .int) ∈ xWS := xw_mem (q := 2078) rfl rfl
theorem mw_144 : Cond.code yX8_isFigure cX8_isFigure 3 (some .boolean) ∈ xWS := xw_mem (q := 2083) rfl rfl
theorem mw_145 : Cond.code yX9_init cX9_init 3 none ∈ xWS := xw_mem (q := 1129) rfl rfl
theorem mw_146 : Cond.initialized RX9 ∈ xWS := xw_mem (q := 1010) rfl rfl
theorem mw_147 : Cond.code yX9_source cX9_source 2 (some .int) ∈ xWS := xw_mem (q := 2218) rfl rfl
theorem mw_148 : Cond.code yX9_isOf cX9_isOf 2 (some .boolean) ∈ xWS := xw_mem (q := 2180) rfl rfl
theorem mw_149 : Cond.code yX10_init cX10_init 3 none ∈ xWS := xw_mem (q := 1138) rfl rfl
theorem mw_150 : Cond.initialized RX10 ∈ xWS := xw_mem (q := 1011) rfl rfl
theorem mw_151 : Cond.code yX10_thinks cX10_thinks 2 (some .boolean) ∈ xWS := xw_mem (q := 3013) rfl rfl
theorem mw_152 : Cond.code yX11_init cX11_init 2 none ∈ xWS := xw_mem (q := 1021) rfl rfl
theorem mw_153 : Cond.initialized RX11 ∈ xWS := xw_mem (q := 1001) rfl rfl
theorem mw_154 : Cond.code yX11_row cX11_row 3 (some .int) ∈ xWS := xw_mem (q := 1222) rfl rfl
theorem mw_155 : Cond.code yX11_lay cX11_lay 5 (some .int) ∈ xWS := xw_mem (q := 2000) rfl rfl
theorem mw_156 : Cond.code yX11_at cX11_at 4 (some .int) ∈ xWS := xw_mem (q := 2024) rfl rfl
theorem mw_157 : Cond.code yX11_tear cX11_tear 2 (some .int) ∈ xWS := xw_mem (q := 2028) rfl rfl
theorem mw_158 : Cond.code yX11_copy cX11_copy 6 (some .int) ∈ xWS := xw_mem (q := 2036) rfl rfl
theorem mw_159 : Cond.code yX11_mean cX11_mean 7 (some .int) ∈ xWS := xw_mem (q := 2052) rfl rfl
theorem mw_160 : Cond.code yX11_text cX11_text 3 (some .int) ∈ xWS := xw_mem (q := 2060) rfl rfl
theorem mw_161 : Cond.code yX11_put cX11_put 6 (some .int) ∈ xWS := xw_mem (q := 2067) rfl rfl
theorem mw_162 : Cond.code yX11_fault cX11_fault 2 (some .int) ∈ xWS := xw_mem (q := 2071) rfl rfl
theorem mw_163 : Cond.code yX11_room cX11_room 4 (some .int) ∈ xWS := xw_mem (q := 2105) rfl rfl
theorem mw_164 : Cond.code yX11_glass cX11_glass 3 (some .int) ∈ xWS := xw_mem (q := 2117) rfl rfl
theorem mw_165 : Cond.code yX11_mark cX11_mark 5 (some .int) ∈ xWS := xw_mem (q := 2169) rfl rfl
theorem mw_166 : Cond.code yX11_habit cX11_habit 2 (some .int) ∈ xWS := xw_mem (q := 3041) rfl rfl
theorem mw_167 : Cond.code yX11_term cX11_term 3 (some .int) ∈ xWS := xw_mem (q := 3047) rfl rfl
theorem mw_168 : Cond.code yX11_step cX11_step 3 (some .int) ∈ xWS := xw_mem (q := 3059) rfl rfl
theorem mw_169 : Cond.code yX11_deed cX11_deed 3 (some .int) ∈ xWS := xw_mem (q := 3084) rfl rfl
theorem mw_170 : Cond.code yX11_broken cX11_broken 1 (some .int) ∈ xWS := xw_mem (q := 3089) rfl rfl
theorem mw_171 : Cond.code yX11_undo cX11_undo 3 (some .int) ∈ xWS := xw_mem (q := 3101) rfl rfl
theorem mw_172 : Cond.code yX11_keep cX11_keep 2 (some .int) ∈ xWS := xw_mem (q := 3105) rfl rfl
theorem mw_173 : Cond.code yX11_on cX11_on 2 (some .int) ∈ xWS := xw_mem (q := 3117) rfl rfl
theorem mw_174 : Cond.code yX11_show cX11_show 8 (some .int) ∈ xWS := xw_mem (q := 3125) rfl rfl
theorem mw_175 : Cond.code yX11_breaks cX11_breaks 8 (some .int) ∈ xWS := xw_mem (q := 3138) rfl rfl
theorem mw_176 : Cond.code yX11_alike cX11_alike 7 (some .int) ∈ xWS := xw_mem (q := 3147) rfl rfl
theorem mw_177 : Cond.code yX11_fit cX11_fit 7 (some .int) ∈ xWS := xw_mem (q := 3151) rfl rfl
theorem mw_178 : Cond.code yX11_ways cX11_ways 7 (some .int) ∈ xWS := xw_mem (q := 3158) rfl rfl
theorem mw_179 : Cond.code yX11_first cX11_first 7 (some .int) ∈ xWS := xw_mem (q := 3175) rfl rfl
theorem mw_180 : Cond.code yX11_can cX11_can 5 (some .int) ∈ xWS := xw_mem (q := 3182) rfl rfl
theorem mw_181 : Cond.code yX11_laws cX11_laws 4 (some .int) ∈ xWS := xw_mem (q := 3186) rfl rfl
theorem mw_182 : Cond.code yX11_next cX11_next 10 (some .int) ∈ xWS := xw_mem (q := 3198) rfl rfl
theorem mw_183 : Cond.code yX11_he cX11_he 7 (some .int) ∈ xWS := xw_mem (q := 3207) rfl rfl
theorem mw_184 : Cond.code yX11_keeps cX11_keeps 3 (some .int) ∈ xWS := xw_mem (q := 3211) rfl rfl
theorem mw_185 : Cond.code yX11_still cX11_still 3 (some .int) ∈ xWS := xw_mem (q := 4008) rfl rfl
theorem mw_186 : Cond.code yX11_game cX11_game 2 (some .int) ∈ xWS := xw_mem (q := 4016) rfl rfl
theorem mw_187 : Cond.code yX11_picks cX11_picks 2 (some .int) ∈ xWS := xw_mem (q := 4028) rfl rfl
theorem mw_188 : Cond.code yX11_odds cX11_odds 10 (some .int) ∈ xWS := xw_mem (q := 4032) rfl rfl
theorem mw_189 : Cond.code yX11_mid cX11_mid 8 (some .int) ∈ xWS := xw_mem (q := 4041) rfl rfl
theorem mw_190 : Cond.code yX11_lots cX11_lots 8 (some .int) ∈ xWS := xw_mem (q := 4045) rfl rfl
theorem mw_191 : Cond.code yX11_asked cX11_asked 1 (some .int) ∈ xWS := xw_mem (q := 4053) rfl rfl
theorem mw_192 : Cond.code yX11_upper cX11_upper 1 (some .long) ∈ xWS := xw_mem (q := 4057) rfl rfl
theorem mw_193 : Cond.code yX11_lower cX11_lower 1 (some .long) ∈ xWS := xw_mem (q := 4061) rfl rfl
theorem mw_194 : Cond.code yX11_count cX11_count 2 (some .int) ∈ xWS := xw_mem (q := 4065) rfl rfl
theorem mw_195 : Cond.code yX11_finding cX11_finding 1 (some .int) ∈ xWS := xw_mem (q := 4080) rfl rfl
theorem mw_196 : Cond.code yX11_findings cX11_findings 2 (some .int) ∈ xWS := xw_mem (q := 4084) rfl rfl
theorem mw_197 : Cond.code yX11_digest cX11_digest 5 (some .long) ∈ xWS := xw_mem (q := 4088) rfl rfl
theorem mw_198 : Cond.code yX11_refuse cX11_refuse 2 (some .int) ∈ xWS := xw_mem (q := 1229) rfl rfl
theorem mw_199 : Cond.code yX11_isRow cX11_isRow 1 (some .boolean) ∈ xWS := xw_mem (q := 1225) rfl rfl
theorem mw_200 : Cond.code yX11_isText cX11_isText 1 (some .boolean) ∈ xWS := xw_mem (q := 2063) rfl rfl
theorem mw_201 : Cond.code yX11_isKept cX11_isKept 1 (some .boolean) ∈ xWS := xw_mem (q := 3108) rfl rfl
theorem mw_202 : Cond.code yX11_isStep cX11_isStep 1 (some .boolean) ∈ xWS := xw_mem (q := 3021) rfl rfl
theorem mw_203 : Cond.code yX11_isGlass cX11_isGlass 2 (some .boolean) ∈ xWS := xw_mem (q := 2121) rfl rfl
theorem mw_204 : Cond.code yX11_findingOfPlace cX11_findingOfPlace 2 (some .int) ∈ xWS := xw_mem (q := 2003) rfl rfl
theorem mw_205 : Cond.code yX11_findingOfSteps cX11_findingOfSteps 3 (some .int) ∈ xWS := xw_mem (q := 3128) rfl rfl
theorem mw_206 : Cond.code yX11_findingOfPair cX11_findingOfPair 4 (some .int) ∈ xWS := xw_mem (q := 3154) rfl rfl
theorem mw_207 : Cond.code yX11_newPane cX11_newPane 2 (some (.object "LimpMirror$Pane")) ∈ xWS := xw_mem (q := 1108) rfl rfl
theorem mw_208 : Cond.code yX11_paneOf cX11_paneOf 3 (some (.object "LimpMirror$Pane")) ∈ xWS := xw_mem (q := 2129) rfl rfl
theorem mw_209 : Cond.code yX11_glassFact cX11_glassFact 3 (some .int) ∈ xWS := xw_mem (q := 2125) rfl rfl
theorem mw_210 : Cond.code yX11_noughtsAtDeeds cX11_noughtsAtDeeds 4 (some .int) ∈ xWS := xw_mem (q := 3025) rfl rfl
theorem mw_211 : Cond.code yX11_doStep cX11_doStep 5 (some .int) ∈ xWS := xw_mem (q := 3063) rfl rfl
theorem mw_212 : Cond.code yX11_glassesOf cX11_glassesOf 4 (some .int) ∈ xWS := xw_mem (q := 4069) rfl rfl
theorem mw_213 : Cond.code yX11_keptOnes cX11_keptOnes 3 (some .int) ∈ xWS := xw_mem (q := 4076) rfl rfl
theorem mw_214 : Cond.code yX11_howManyThere cX11_howManyThere 3 (some .int) ∈ xWS := xw_mem (q := 4072) rfl rfl
theorem mw_215 : Cond.code yX11_digestOf cX11_digestOf 7 (some .long) ∈ xWS := xw_mem (q := 4094) rfl rfl
theorem mw_216 : Cond.code yX11_findSets cX11_findSets 7 (some .boolean) ∈ xWS := xw_mem (q := 3162) rfl rfl
theorem mw_217 : Cond.code yX11_leastOf cX11_leastOf 2 (some .int) ∈ xWS := xw_mem (q := 3178) rfl rfl
theorem mw_218 : Cond.code yX11_firstNotShown cX11_firstNotShown 5 (some .int) ∈ xWS := xw_mem (q := 3194) rfl rfl
theorem mw_219 : Cond.code yX11_lawsOf cX11_lawsOf 5 (some .int) ∈ xWS := xw_mem (q := 3190) rfl rfl
theorem mw_220 : Cond.code yX11_mostThatShowOneThing cX11_mostThatShowOneThing 6 (some .int) ∈ xWS := xw_mem (q := 3202) rfl rfl
theorem mw_221 : Cond.code yX11_leastPick cX11_leastPick 4 (some .int) ∈ xWS := xw_mem (q := 4020) rfl rfl
theorem mw_222 : Cond.code yX11_isSafeBeforeAll cX11_isSafeBeforeAll 3 (some .boolean) ∈ xWS := xw_mem (q := 4024) rfl rfl
theorem mw_223 : Cond.code yX11_breakingOfTwelve cX11_breakingOfTwelve 8 (some .int) ∈ xWS := xw_mem (q := 4036) rfl rfl
theorem mw_224 : Cond.code yX11_tell cX11_tell 7 none ∈ xWS := xw_mem (q := 3168) rfl rfl
theorem mw_225 : Cond.code yX11_commonDivisor cX11_commonDivisor 11 (some .long) ∈ xWS := xw_mem (q := 3171) rfl rfl
theorem mw_226 : Cond.code yX12_init cX12_init 2 none ∈ xWS := xw_mem (q := 4099) rfl rfl
theorem mw_227 : Cond.initialized RX12 ∈ xWS := xw_mem (q := 1014) rfl rfl
theorem mw_228 : Cond.code yX12_in cX12_in 3 (some .boolean) ∈ xWS := xw_mem (q := 4207) rfl rfl
theorem mw_229 : Cond.code yX12_has cX12_has 2 (some .boolean) ∈ xWS := xw_mem (q := 5210) rfl rfl
theorem mw_230 : Cond.code yX12_finds cX12_finds 2 (some .int) ∈ xWS := xw_mem (q := 4211) rfl rfl
theorem mw_231 : Cond.code yX12_tells cX12_tells 2 (some .int) ∈ xWS := xw_mem (q := 4223) rfl rfl
theorem mw_232 : Cond.code yX12_tellParts cX12_tellParts 11 none ∈ xWS := xw_mem (q := 5184) rfl rfl
theorem mw_233 : Cond.code yX12_isRow cX12_isRow 1 (some .boolean) ∈ xWS := xw_mem (q := 4204) rfl rfl
theorem mw_234 : Cond.code yX12_isText cX12_isText 1 (some .boolean) ∈ xWS := xw_mem (q := 5009) rfl rfl
theorem mw_235 : Cond.code yX12_row cX12_row 4 (some .int) ∈ xWS := xw_mem (q := 4201) rfl rfl
theorem mw_236 : Cond.code yX12_wrongAt cX12_wrongAt 3 (some .int) ∈ xWS := xw_mem (q := 4219) rfl rfl
theorem mw_237 : Cond.code yX12_lay cX12_lay 6 (some .int) ∈ xWS := xw_mem (q := 4215) rfl rfl
theorem mw_238 : Cond.code yX12_at cX12_at 4 (some .int) ∈ xWS := xw_mem (q := 4227) rfl rfl
theorem mw_239 : Cond.code yX12_tear cX12_tear 2 (some .int) ∈ xWS := xw_mem (q := 4231) rfl rfl
theorem mw_240 : Cond.code yX12_isPart cX12_isPart 3 (some .boolean) ∈ xWS := xw_mem (q := 4238) rfl rfl
theorem mw_241 : Cond.code yX12_copy cX12_copy 9 (some .int) ∈ xWS := xw_mem (q := 4235) rfl rfl
theorem mw_242 : Cond.code yX12_mean cX12_mean 5 (some .int) ∈ xWS := xw_mem (q := 5002) rfl rfl
theorem mw_243 : Cond.code yX12_text cX12_text 4 (some .int) ∈ xWS := xw_mem (q := 5006) rfl rfl
theorem mw_244 : Cond.code yX12_put cX12_put 5 (some .int) ∈ xWS := xw_mem (q := 5013) rfl rfl
theorem mw_245 : Cond.code yX12_letter cX12_letter 1 (some .int) ∈ xWS := xw_mem (q := 5033) rfl rfl
theorem mw_246 : Cond.code yX12_skip cX12_skip 1 none ∈ xWS := xw_mem (q := 5029) rfl rfl
theorem mw_247 : Cond.code yX12_figure cX12_figure 3 (some .int) ∈ xWS := xw_mem (q := 5037) rfl rfl
theorem mw_248 : Cond.code yX12_kindBy cX12_kindBy 1 (some .int) ∈ xWS := xw_mem (q := 5040) rfl rfl
theorem mw_249 : Cond.code yX12_areHabits cX12_areHabits 3 (some .boolean) ∈ xWS := xw_mem (q := 5025) rfl rfl
theorem mw_250 : Cond.code yX12_isGlassItem cX12_isGlassItem 3 (some .boolean) ∈ xWS := xw_mem (q := 5044) rfl rfl
theorem mw_251 : Cond.code yX12_isTermItem cX12_isTermItem 3 (some .boolean) ∈ xWS := xw_mem (q := 5048) rfl rfl
theorem mw_252 : Cond.code yX12_isRoom cX12_isRoom 4 (some .boolean) ∈ xWS := xw_mem (q := 5021) rfl rfl
theorem mw_253 : Cond.code yX12_fault cX12_fault 2 (some .int) ∈ xWS := xw_mem (q := 5017) rfl rfl
theorem mw_254 : Cond.code yX12_room cX12_room 3 (some .int) ∈ xWS := xw_mem (q := 5052) rfl rfl
theorem mw_255 : Cond.code yX12_isGlass cX12_isGlass 2 (some .boolean) ∈ xWS := xw_mem (q := 5060) rfl rfl
theorem mw_256 : Cond.code yX12_isStep cX12_isStep 1 (some .boolean) ∈ xWS := xw_mem (q := 5097) rfl rfl
theorem mw_257 : Cond.code yX12_mirrored cX12_mirrored 1 (some .int) ∈ xWS := xw_mem (q := 5079) rfl rfl
theorem mw_258 : Cond.code yX12_showsBy cX12_showsBy 9 (some .int) ∈ xWS := xw_mem (q := 5076) rfl rfl
theorem mw_259 : Cond.code yX12_showsOf cX12_showsOf 4 (some .int) ∈ xWS := xw_mem (q := 5072) rfl rfl
theorem mw_260 : Cond.code yX12_termBy cX12_termBy 4 (some .int) ∈ xWS := xw_mem (q := 5083) rfl rfl
theorem mw_261 : Cond.code yX12_shownOf cX12_shownOf 2 (some .int) ∈ xWS := xw_mem (q := 5068) rfl rfl
theorem mw_262 : Cond.code yX12_brokenBy cX12_brokenBy 2 (some .int) ∈ xWS := xw_mem (q := 5064) rfl rfl
theorem mw_263 : Cond.code yX12_isOf cX12_isOf 2 (some .boolean) ∈ xWS := xw_mem (q := 5090) rfl rfl
theorem mw_264 : Cond.code yX12_glass cX12_glass 5 (some .int) ∈ xWS := xw_mem (q := 5056) rfl rfl
theorem mw_265 : Cond.code yX12_mark cX12_mark 5 (some .int) ∈ xWS := xw_mem (q := 5087) rfl rfl
theorem mw_266 : Cond.code yX12_habit cX12_habit 2 (some .int) ∈ xWS := xw_mem (q := 5094) rfl rfl
theorem mw_267 : Cond.code yX12_term cX12_term 3 (some .int) ∈ xWS := xw_mem (q := 5101) rfl rfl
theorem mw_268 : Cond.code yX12_doStep cX12_doStep 3 (some .int) ∈ xWS := xw_mem (q := 5109) rfl rfl
theorem mw_269 : Cond.code yX12_step cX12_step 3 (some .int) ∈ xWS := xw_mem (q := 5105) rfl rfl
theorem mw_270 : Cond.code yX12_deed cX12_deed 3 (some .int) ∈ xWS := xw_mem (q := 5113) rfl rfl
theorem mw_271 : Cond.code yX12_brokenMany cX12_brokenMany 3 (some .int) ∈ xWS := xw_mem (q := 5121) rfl rfl
theorem mw_272 : Cond.code yX12_broken cX12_broken 3 (some .int) ∈ xWS := xw_mem (q := 5117) rfl rfl
theorem mw_273 : Cond.code yX12_undo cX12_undo 3 (some .int) ∈ xWS := xw_mem (q := 5125) rfl rfl
theorem mw_274 : Cond.code yX12_keep cX12_keep 3 (some .int) ∈ xWS := xw_mem (q := 5129) rfl rfl
theorem mw_275 : Cond.code yX12_on cX12_on 3 (some .int) ∈ xWS := xw_mem (q := 5133) rfl rfl
theorem mw_276 : Cond.code yX12_takeOut cX12_takeOut 6 (some .int) ∈ xWS := xw_mem (q := 5141) rfl rfl
theorem mw_277 : Cond.code yX12_takeTwo cX12_takeTwo 4 (some .int) ∈ xWS := xw_mem (q := 5165) rfl rfl
theorem mw_278 : Cond.code yX12_layRow cX12_layRow 5 (some .int) ∈ xWS := xw_mem (q := 5145) rfl rfl
theorem mw_279 : Cond.code yX12_show cX12_show 7 (some .int) ∈ xWS := xw_mem (q := 5137) rfl rfl
theorem mw_280 : Cond.code yX12_breaksAt cX12_breaksAt 3 (some .boolean) ∈ xWS := xw_mem (q := 5153) rfl rfl
theorem mw_281 : Cond.code yX12_breaks cX12_breaks 8 (some .int) ∈ xWS := xw_mem (q := 5149) rfl rfl
theorem mw_282 : Cond.code yX12_alike cX12_alike 6 (some .int) ∈ xWS := xw_mem (q := 5157) rfl rfl
theorem mw_283 : Cond.code yX12_fit cX12_fit 7 (some .int) ∈ xWS := xw_mem (q := 5161) rfl rfl
theorem mw_284 : Cond.code yX12_rowsOf cX12_rowsOf 3 (some .int) ∈ xWS := xw_mem (q := 5172) rfl rfl
theorem mw_285 : Cond.code yX12_layDoings cX12_layDoings 5 none ∈ xWS := xw_mem (q := 5176) rfl rfl
theorem mw_286 : Cond.code yX12_shows cX12_shows 5 (some .boolean) ∈ xWS := xw_mem (q := 5180) rfl rfl
theorem mw_287 : Cond.code yX12_ways cX12_ways 7 (some .int) ∈ xWS := xw_mem (q := 5169) rfl rfl
theorem mw_288 : Cond.code yX12_first cX12_first 7 (some .int) ∈ xWS := xw_mem (q := 5188) rfl rfl
theorem mw_289 : Cond.code yX12_can cX12_can 8 (some .int) ∈ xWS := xw_mem (q := 5192) rfl rfl
theorem mw_290 : Cond.code yX12_lawsOf cX12_lawsOf 6 (some .int) ∈ xWS := xw_mem (q := 5200) rfl rfl
theorem mw_291 : Cond.code yX12_laws cX12_laws 4 (some .int) ∈ xWS := xw_mem (q := 5196) rfl rfl
theorem mw_292 : Cond.code yX12_bits cX12_bits 3 (some .int) ∈ xWS := xw_mem (q := 5207) rfl rfl
theorem mw_293 : Cond.code yX12_next cX12_next 13 (some .int) ∈ xWS := xw_mem (q := 5204) rfl rfl
theorem mw_294 : Cond.code yX12_he cX12_he 9 (some .int) ∈ xWS := xw_mem (q := 5214) rfl rfl
theorem mw_295 : Cond.code yX12_breaksNone cX12_breaksNone 5 (some .boolean) ∈ xWS := xw_mem (q := 5222) rfl rfl
theorem mw_296 : Cond.code yX12_keeps cX12_keeps 6 (some .int) ∈ xWS := xw_mem (q := 5218) rfl rfl
theorem mw_297 : Cond.code yX12_still cX12_still 7 (some .int) ∈ xWS := xw_mem (q := 5226) rfl rfl
theorem mw_298 : Cond.code yX12_isSafe cX12_isSafe 4 (some .boolean) ∈ xWS := xw_mem (q := 5238) rfl rfl
theorem mw_299 : Cond.code yX12_gameBy cX12_gameBy 5 (some .int) ∈ xWS := xw_mem (q := 5234) rfl rfl
theorem mw_300 : Cond.code yX12_game cX12_game 2 (some .int) ∈ xWS := xw_mem (q := 5230) rfl rfl
theorem mw_301 : Cond.code yX12_picks cX12_picks 2 (some .int) ∈ xWS := xw_mem (q := 6002) rfl rfl
theorem mw_302 : Cond.code yX12_odds cX12_odds 10 (some .int) ∈ xWS := xw_mem (q := 6006) rfl rfl
theorem mw_303 : Cond.code yX12_mid cX12_mid 8 (some .int) ∈ xWS := xw_mem (q := 6011) rfl rfl
theorem mw_304 : Cond.code yX12_lots cX12_lots 7 (some .int) ∈ xWS := xw_mem (q := 6015) rfl rfl
theorem mw_305 : Cond.code yX12_asked cX12_asked 1 (some .int) ∈ xWS := xw_mem (q := 6024) rfl rfl
theorem mw_306 : Cond.code yX12_upper cX12_upper 1 (some .long) ∈ xWS := xw_mem (q := 6028) rfl rfl
theorem mw_307 : Cond.code yX12_lower cX12_lower 1 (some .long) ∈ xWS := xw_mem (q := 6032) rfl rfl
theorem mw_308 : Cond.code yX12_kindsOf cX12_kindsOf 4 (some .int) ∈ xWS := xw_mem (q := 6044) rfl rfl
theorem mw_309 : Cond.code yX12_thereOf cX12_thereOf 4 (some .int) ∈ xWS := xw_mem (q := 6047) rfl rfl
theorem mw_310 : Cond.code yX12_countOf cX12_countOf 2 (some .int) ∈ xWS := xw_mem (q := 6040) rfl rfl
theorem mw_311 : Cond.code yX12_count cX12_count 2 (some .int) ∈ xWS := xw_mem (q := 6036) rfl rfl
theorem mw_312 : Cond.code yX12_finding cX12_finding 1 (some .int) ∈ xWS := xw_mem (q := 6051) rfl rfl
theorem mw_313 : Cond.code yX12_findings cX12_findings 2 (some .int) ∈ xWS := xw_mem (q := 6055) rfl rfl
theorem mw_314 : Cond.code yX12_add cX12_add 2 none ∈ xWS := xw_mem (q := 6064) rfl rfl
theorem mw_315 : Cond.code yX12_digest cX12_digest 5 (some .long) ∈ xWS := xw_mem (q := 6059) rfl rfl
theorem mw_316 : Cond.code yJ6_bitCount_0f7a4 cJ6_bitCount_0f7a4 1 (some .int) ∈ xWS := xw_mem (q := 3032) rfl rfl
theorem mw_317 : Cond.initialized RJ6 ∈ xWS := xw_mem (q := 1016) rfl rfl
theorem mw_318 : Cond.instanceMethod yX3_init ∈ xWS := xw_mem (q := 1035) rfl rfl
theorem mw_319 : Cond.methodLink RX0 15 Lib.Math.max.name ∈ xWS := xw_mem (q := 1074) rfl rfl
theorem mw_320 : Cond.static Lib.Math.max.name ∈ xWS := xw_mem (q := 1075) rfl rfl
theorem mw_321 : Cond.initialized "java/lang/Math" ∈ xWS := xw_mem (q := 1006) rfl rfl
theorem mw_322 : Cond.code Lib.Math.max.name Lib.Math.max.code 2 (some .int) ∈ xWS := xw_mem (q := 1076) rfl rfl
theorem mw_323 : Cond.instanceMethod yX0_has ∈ xWS := xw_mem (q := 2009) rfl rfl
theorem mw_324 : Cond.methodLink RX0 25 yX0_has ∈ xWS := xw_mem (q := 2016) rfl rfl
theorem mw_325 : Cond.selects RX0 yX0_has yX0_has ∈ xWS := xw_mem (q := 2010) rfl rfl
theorem mw_326 : Cond.methodLink RX0 29 Lib.Math.min.name ∈ xWS := xw_mem (q := 1234) rfl rfl
theorem mw_327 : Cond.static Lib.Math.min.name ∈ xWS := xw_mem (q := 1235) rfl rfl
theorem mw_328 : Cond.code Lib.Math.min.name Lib.Math.min.code 2 (some .int) ∈ xWS := xw_mem (q := 1236) rfl rfl
theorem mw_329 : Cond.instanceMethod yX0_hasPlaces ∈ xWS := xw_mem (q := 2038) rfl rfl
theorem mw_330 : Cond.methodLink RX0 32 yX0_hasPlaces ∈ xWS := xw_mem (q := 2045) rfl rfl
theorem mw_331 : Cond.selects RX0 yX0_hasPlaces yX0_hasPlaces ∈ xWS := xw_mem (q := 2039) rfl rfl
theorem mw_332 : Cond.methodLink RX0 36 arraycopyName ∈ xWS := xw_mem (q := 2046) rfl rfl
theorem mw_333 : Cond.native arraycopyName ∈ xWS := xw_mem (q := 2048) rfl rfl
theorem mw_334 : Cond.static arraycopyName ∈ xWS := xw_mem (q := 2047) rfl rfl
theorem mw_335 : Cond.initialized "java/lang/System" ∈ xWS := xw_mem (q := 1015) rfl rfl
theorem mw_336 : Cond.instanceMethod yX0_open ∈ xWS := xw_mem (q := 1231) rfl rfl
theorem mw_337 : Cond.methodLink RX0 42 yX0_open ∈ xWS := xw_mem (q := 3133) rfl rfl
theorem mw_338 : Cond.selects RX0 yX0_open yX0_open ∈ xWS := xw_mem (q := 1232) rfl rfl
theorem mw_339 : Cond.instanceMethod yX0_take ∈ xWS := xw_mem (q := 2042) rfl rfl
theorem mw_340 : Cond.methodLink RX0 46 yX0_take ∈ xWS := xw_mem (q := 3134) rfl rfl
theorem mw_341 : Cond.selects RX0 yX0_take yX0_take ∈ xWS := xw_mem (q := 2043) rfl rfl
theorem mw_342 : Cond.instanceMethod yX0_get ∈ xWS := xw_mem (q := 2013) rfl rfl
theorem mw_343 : Cond.methodLink RX0 50 yX0_get ∈ xWS := xw_mem (q := 2231) rfl rfl
theorem mw_344 : Cond.selects RX0 yX0_get yX0_get ∈ xWS := xw_mem (q := 2014) rfl rfl
theorem mw_345 : Cond.methodLink RX1 3 objectInit ∈ xWS := xw_mem (q := 1089) rfl rfl
theorem mw_346 : Cond.instanceMethod objectInit ∈ xWS := xw_mem (q := 1023) rfl rfl
theorem mw_347 : Cond.code objectInit ⟨#[0xb1]⟩ 1 none ∈ xWS := xw_mem (q := 1024) rfl rfl
theorem mw_348 : Cond.methodLink RX1 28 Lib.Math.min.name ∈ xWS := xw_mem (q := 3216) rfl rfl
theorem mw_349 : Cond.methodLink RX1 34 yX1_heirOf ∈ xWS := xw_mem (q := 3217) rfl rfl
theorem mw_350 : Cond.static yX1_heirOf ∈ xWS := xw_mem (q := 3218) rfl rfl
theorem mw_351 : Cond.instanceMethod yX1_weighStep ∈ xWS := xw_mem (q := 3223) rfl rfl
theorem mw_352 : Cond.methodLink RX1 38 yX1_weighStep ∈ xWS := xw_mem (q := 3221) rfl rfl
theorem mw_353 : Cond.selects RX1 yX1_weighStep yX1_weighStep ∈ xWS := xw_mem (q := 15) rfl rfl
theorem mw_354 : Cond.methodLink RX1 42 yX1_isHead ∈ xWS := xw_mem (q := 3227) rfl rfl
theorem mw_355 : Cond.static yX1_isHead ∈ xWS := xw_mem (q := 3228) rfl rfl
theorem mw_356 : Cond.instanceMethod yX1_addChain ∈ xWS := xw_mem (q := 3235) rfl rfl
theorem mw_357 : Cond.methodLink RX1 46 yX1_addChain ∈ xWS := xw_mem (q := 3233) rfl rfl
theorem mw_358 : Cond.selects RX1 yX1_addChain yX1_addChain ∈ xWS := xw_mem (q := 16) rfl rfl
theorem mw_359 : Cond.instanceMethod yX7_source ∈ xWS := xw_mem (q := 2195) rfl rfl
theorem mw_360 : Cond.instanceMethod yX4_source ∈ xWS := xw_mem (q := 2199) rfl rfl
theorem mw_361 : Cond.methodLink RX1 50 yX7_source ∈ xWS := xw_mem (q := 3220) rfl rfl
theorem mw_362 : Cond.sameMethod "LimpMirror$Pane" "LimpMirror$Pane" "source" "(I)I" ∈ xWS := xw_mem (q := 2197) rfl rfl
theorem mw_363 : Cond.selects RX4 ⟨"LimpMirror$Pane", "source", "(I)I"⟩ yX4_source ∈ xWS := xw_mem (q := 2198) rfl rfl
theorem mw_364 : Cond.instanceMethod yX5_source ∈ xWS := xw_mem (q := 2202) rfl rfl
theorem mw_365 : Cond.selects RX5 ⟨"LimpMirror$Pane", "source", "(I)I"⟩ yX5_source ∈ xWS := xw_mem (q := 2201) rfl rfl
theorem mw_366 : Cond.instanceMethod yX6_source ∈ xWS := xw_mem (q := 2210) rfl rfl
theorem mw_367 : Cond.selects RX6 ⟨"LimpMirror$Pane", "source", "(I)I"⟩ yX6_source ∈ xWS := xw_mem (q := 2209) rfl rfl
theorem mw_368 : Cond.selects RX7 yX7_source yX7_source ∈ xWS := xw_mem (q := 2196) rfl rfl
theorem mw_369 : Cond.instanceMethod yX9_source ∈ xWS := xw_mem (q := 2217) rfl rfl
theorem mw_370 : Cond.selects RX9 ⟨"LimpMirror$Pane", "source", "(I)I"⟩ yX9_source ∈ xWS := xw_mem (q := 2216) rfl rfl
theorem mw_371 : Cond.selects RX10 ⟨"LimpMirror$Pane", "source", "(I)I"⟩ yX7_source ∈ xWS := xw_mem (q := 2223) rfl rfl
theorem mw_372 : Cond.instanceMethod yX8_seen ∈ xWS := xw_mem (q := 2236) rfl rfl
theorem mw_373 : Cond.methodLink RX1 56 yX8_seen ∈ xWS := xw_mem (q := 3225) rfl rfl
theorem mw_374 : Cond.selects RX8 yX8_seen yX8_seen ∈ xWS := xw_mem (q := 2237) rfl rfl
theorem mw_375 : Cond.instanceMethod yX8_isBroken ∈ xWS := xw_mem (q := 3140) rfl rfl
theorem mw_376 : Cond.methodLink RX1 61 yX8_isBroken ∈ xWS := xw_mem (q := 3226) rfl rfl
theorem mw_377 : Cond.selects RX8 yX8_isBroken yX8_isBroken ∈ xWS := xw_mem (q := 3141) rfl rfl
theorem mw_378 : Cond.methodLink RX1 65 yX1_shownAtHead ∈ xWS := xw_mem (q := 3230) rfl rfl
theorem mw_379 : Cond.static yX1_shownAtHead ∈ xWS := xw_mem (q := 3231) rfl rfl
theorem mw_380 : Cond.instanceMethod yX2_write ∈ xWS := xw_mem (q := 3070) rfl rfl
theorem mw_381 : Cond.methodLink RX2 19 yX2_write ∈ xWS := xw_mem (q := 3068) rfl rfl
theorem mw_382 : Cond.selects RX2 yX2_write yX2_write ∈ xWS := xw_mem (q := 9) rfl rfl
theorem mw_383 : Cond.instanceMethod yX2_see ∈ xWS := xw_mem (q := 3073) rfl rfl
theorem mw_384 : Cond.methodLink RX2 23 yX2_see ∈ xWS := xw_mem (q := 3072) rfl rfl
theorem mw_385 : Cond.selects RX2 yX2_see yX2_see ∈ xWS := xw_mem (q := 3074) rfl rfl
theorem mw_386 : Cond.methodLink RX2 26 arraycopyName ∈ xWS := xw_mem (q := 3113) rfl rfl
theorem mw_387 : Cond.instanceMethod yX2_fact ∈ xWS := xw_mem (q := 2159) rfl rfl
theorem mw_388 : Cond.methodLink RX2 32 yX2_fact ∈ xWS := xw_mem (q := 2158) rfl rfl
theorem mw_389 : Cond.selects RX2 yX2_fact yX2_fact ∈ xWS := xw_mem (q := 2160) rfl rfl
theorem mw_390 : Cond.methodLink RX3 1 objectInit ∈ xWS := xw_mem (q := 1037) rfl rfl
theorem mw_391 : Cond.methodLink RX4 1 yX9_init ∈ xWS := xw_mem (q := 1157) rfl rfl
theorem mw_392 : Cond.instanceMethod yX9_init ∈ xWS := xw_mem (q := 1128) rfl rfl
theorem mw_393 : Cond.methodLink RX4 7 ⟨"LimpMirror$Friend", "isOdd", "(I)Z"⟩ ∈ xWS := xw_mem (q := 3006) rfl rfl
theorem mw_394 : Cond.sameMethod "LimpMirror$Friend" "LimpMirror$Pane" "isOdd" "(I)Z" ∈ xWS := xw_mem (q := 3007) rfl rfl
theorem mw_395 : Cond.static yX7_isOdd ∈ xWS := xw_mem (q := 2221) rfl rfl
theorem mw_396 : Cond.methodLink RX5 3 yX7_init ∈ xWS := xw_mem (q := 1114) rfl rfl
theorem mw_397 : Cond.instanceMethod yX7_init ∈ xWS := xw_mem (q := 1115) rfl rfl
theorem mw_398 : Cond.instanceMethod yX7_delay ∈ xWS := xw_mem (q := 2145) rfl rfl
theorem mw_399 : Cond.methodLink RX5 9 ⟨"LimpMirror$Late", "delay", "()I"⟩ ∈ xWS := xw_mem (q := 2204) rfl rfl
theorem mw_400 : Cond.sameMethod "LimpMirror$Late" "LimpMirror$Pane" "delay" "()I" ∈ xWS := xw_mem (q := 2205) rfl rfl
theorem mw_401 : Cond.selects RX5 ⟨"LimpMirror$Late", "delay", "()I"⟩ yX7_delay ∈ xWS := xw_mem (q := 2207) rfl rfl
theorem mw_402 : Cond.selects RX6 ⟨"LimpMirror$Late", "delay", "()I"⟩ yX7_delay ∈ xWS := xw_mem (q := 2208) rfl rfl
theorem mw_403 : Cond.methodLink RX5 15 yX7_isOf ∈ xWS := xw_mem (q := 2185) rfl rfl
theorem mw_404 : Cond.sameMethod "LimpMirror$Pane" "LimpMirror$Pane" "isOf" "(I)Z" ∈ xWS := xw_mem (q := 2177) rfl rfl
theorem mw_405 : Cond.superclass RX5 RX7 ∈ xWS := xw_mem (q := 1124) rfl rfl
theorem mw_406 : Cond.instanceMethod yX7_isOf ∈ xWS := xw_mem (q := 2175) rfl rfl
theorem mw_407 : Cond.methodLink RX6 3 yX5_init ∈ xWS := xw_mem (q := 1148) rfl rfl
theorem mw_408 : Cond.instanceMethod yX5_init ∈ xWS := xw_mem (q := 1112) rfl rfl
theorem mw_409 : Cond.methodLink RX6 9 yX6_placesToLimp ∈ xWS := xw_mem (q := 2212) rfl rfl
theorem mw_410 : Cond.static yX6_placesToLimp ∈ xWS := xw_mem (q := 2213) rfl rfl
theorem mw_411 : Cond.methodLink RX6 15 yX5_source ∈ xWS := xw_mem (q := 2215) rfl rfl
theorem mw_412 : Cond.sameMethod "LimpMirror$Late" "LimpMirror$Late" "source" "(I)I" ∈ xWS := xw_mem (q := 6066) rfl rfl
theorem mw_413 : Cond.superclass RX6 RX5 ∈ xWS := xw_mem (q := 1151) rfl rfl
theorem mw_414 : Cond.methodLink RX7 3 objectInit ∈ xWS := xw_mem (q := 1117) rfl rfl
theorem mw_415 : Cond.methodLink RX8 3 objectInit ∈ xWS := xw_mem (q := 1052) rfl rfl
theorem mw_416 : Cond.static yX11_isStep ∈ xWS := xw_mem (q := 3020) rfl rfl
theorem mw_417 : Cond.instanceMethod yX7_thinks ∈ xWS := xw_mem (q := 3000) rfl rfl
theorem mw_418 : Cond.instanceMethod yX4_thinks ∈ xWS := xw_mem (q := 3004) rfl rfl
theorem mw_419 : Cond.methodLink RX8 32 yX7_thinks ∈ xWS := xw_mem (q := 2239) rfl rfl
theorem mw_420 : Cond.sameMethod "LimpMirror$Pane" "LimpMirror$Pane" "thinks" "(I)Z" ∈ xWS := xw_mem (q := 3002) rfl rfl
theorem mw_421 : Cond.selects RX4 ⟨"LimpMirror$Pane", "thinks", "(I)Z"⟩ yX4_thinks ∈ xWS := xw_mem (q := 3003) rfl rfl
theorem mw_422 : Cond.selects RX5 ⟨"LimpMirror$Pane", "thinks", "(I)Z"⟩ yX7_thinks ∈ xWS := xw_mem (q := 3008) rfl rfl
theorem mw_423 : Cond.selects RX6 ⟨"LimpMirror$Pane", "thinks", "(I)Z"⟩ yX7_thinks ∈ xWS := xw_mem (q := 3009) rfl rfl
theorem mw_424 : Cond.selects RX7 yX7_thinks yX7_thinks ∈ xWS := xw_mem (q := 3001) rfl rfl
theorem mw_425 : Cond.selects RX9 ⟨"LimpMirror$Pane", "thinks", "(I)Z"⟩ yX7_thinks ∈ xWS := xw_mem (q := 3010) rfl rfl
theorem mw_426 : Cond.instanceMethod yX10_thinks ∈ xWS := xw_mem (q := 3012) rfl rfl
theorem mw_427 : Cond.selects RX10 ⟨"LimpMirror$Pane", "thinks", "(I)Z"⟩ yX10_thinks ∈ xWS := xw_mem (q := 3011) rfl rfl
theorem mw_428 : Cond.instanceMethod yX8_thought ∈ xWS := xw_mem (q := 3016) rfl rfl
theorem mw_429 : Cond.methodLink RX8 37 yX8_thought ∈ xWS := xw_mem (q := 3015) rfl rfl
theorem mw_430 : Cond.selects RX8 yX8_thought yX8_thought ∈ xWS := xw_mem (q := 3017) rfl rfl
theorem mw_431 : Cond.methodLink RX8 41 yX7_source ∈ xWS := xw_mem (q := 2194) rfl rfl
theorem mw_432 : Cond.instanceMethod yX0_stepAt ∈ xWS := xw_mem (q := 2229) rfl rfl
theorem mw_433 : Cond.methodLink RX8 44 ⟨"LimpMirror$Doings", "stepAt", "(I)I"⟩ ∈ xWS := xw_mem (q := 2225) rfl rfl
theorem mw_434 : Cond.sameMethod "LimpMirror$Doings" "LimpMirror$Doings" "stepAt" "(I)I" ∈ xWS := xw_mem (q := 2227) rfl rfl
theorem mw_435 : Cond.selects RX0 ⟨"LimpMirror$Doings", "stepAt", "(I)I"⟩ yX0_stepAt ∈ xWS := xw_mem (q := 2228) rfl rfl
theorem mw_436 : Cond.instanceMethod yX2_stepAt ∈ xWS := xw_mem (q := 2233) rfl rfl
theorem mw_437 : Cond.selects RX2 ⟨"LimpMirror$Doings", "stepAt", "(I)I"⟩ yX2_stepAt ∈ xWS := xw_mem (q := 2232) rfl rfl
theorem mw_438 : Cond.methodLink RX8 49 yX8_seen ∈ xWS := xw_mem (q := 2235) rfl rfl
theorem mw_439 : Cond.instanceMethod yX8_firstBroken ∈ xWS := xw_mem (q := 3077) rfl rfl
theorem mw_440 : Cond.methodLink RX8 53 yX8_firstBroken ∈ xWS := xw_mem (q := 3143) rfl rfl
theorem mw_441 : Cond.selects RX8 yX8_firstBroken yX8_firstBroken ∈ xWS := xw_mem (q := 3078) rfl rfl
theorem mw_442 : Cond.methodLink RX8 57 yX8_afterBlanks ∈ xWS := xw_mem (q := 2076) rfl rfl
theorem mw_443 : Cond.static yX8_afterBlanks ∈ xWS := xw_mem (q := 2077) rfl rfl
theorem mw_444 : Cond.instanceMethod yX0_size ∈ xWS := xw_mem (q := 2054) rfl rfl
theorem mw_445 : Cond.methodLink RX8 61 yX0_size ∈ xWS := xw_mem (q := 2079) rfl rfl
theorem mw_446 : Cond.selects RX0 yX0_size yX0_size ∈ xWS := xw_mem (q := 2055) rfl rfl
theorem mw_447 : Cond.methodLink RX8 67 yX0_get ∈ xWS := xw_mem (q := 2080) rfl rfl
theorem mw_448 : Cond.methodLink RX8 70 yX8_isFigure ∈ xWS := xw_mem (q := 2081) rfl rfl
theorem mw_449 : Cond.static yX8_isFigure ∈ xWS := xw_mem (q := 2082) rfl rfl
theorem mw_450 : Cond.instanceMethod yX8_readItems ∈ xWS := xw_mem (q := 2087) rfl rfl
theorem mw_451 : Cond.methodLink RX8 74 yX8_readItems ∈ xWS := xw_mem (q := 2085) rfl rfl
theorem mw_452 : Cond.selects RX8 yX8_readItems yX8_readItems ∈ xWS := xw_mem (q := 1) rfl rfl
theorem mw_453 : Cond.instanceMethod yX8_readTerm ∈ xWS := xw_mem (q := 2091) rfl rfl
theorem mw_454 : Cond.methodLink RX8 77 yX8_readTerm ∈ xWS := xw_mem (q := 2089) rfl rfl
theorem mw_455 : Cond.selects RX8 yX8_readTerm yX8_readTerm ∈ xWS := xw_mem (q := 2) rfl rfl
theorem mw_456 : Cond.instanceMethod yX8_readGlass ∈ xWS := xw_mem (q := 2095) rfl rfl
theorem mw_457 : Cond.methodLink RX8 80 yX8_readGlass ∈ xWS := xw_mem (q := 2093) rfl rfl
theorem mw_458 : Cond.selects RX8 yX8_readGlass yX8_readGlass ∈ xWS := xw_mem (q := 3) rfl rfl
theorem mw_459 : Cond.methodLink RX8 83 yX8_kindOf ∈ xWS := xw_mem (q := 2097) rfl rfl
theorem mw_460 : Cond.static yX8_kindOf ∈ xWS := xw_mem (q := 2098) rfl rfl
theorem mw_461 : Cond.methodLink RX8 89 yX0_has ∈ xWS := xw_mem (q := 2084) rfl rfl
theorem mw_462 : Cond.methodLink RX9 3 yX7_init ∈ xWS := xw_mem (q := 1130) rfl rfl
theorem mw_463 : Cond.methodLink RX9 9 ⟨"LimpMirror$Thin", "isOdd", "(I)Z"⟩ ∈ xWS := xw_mem (q := 2219) rfl rfl
theorem mw_464 : Cond.sameMethod "LimpMirror$Thin" "LimpMirror$Pane" "isOdd" "(I)Z" ∈ xWS := xw_mem (q := 2220) rfl rfl
theorem mw_465 : Cond.methodLink RX9 15 yX7_isOf ∈ xWS := xw_mem (q := 2181) rfl rfl
theorem mw_466 : Cond.superclass RX9 RX7 ∈ xWS := xw_mem (q := 1133) rfl rfl
theorem mw_467 : Cond.methodLink RX10 1 yX7_init ∈ xWS := xw_mem (q := 1139) rfl rfl
theorem mw_468 : Cond.methodLink RX11 1 objectInit ∈ xWS := xw_mem (q := 1022) rfl rfl
theorem mw_469 : Cond.instanceMethod yX2_init ∈ xWS := xw_mem (q := 1032) rfl rfl
theorem mw_470 : Cond.instanceMethod yX8_init ∈ xWS := xw_mem (q := 1050) rfl rfl
theorem mw_471 : Cond.methodLink RX11 45 yX0_init ∈ xWS := xw_mem (q := 1070) rfl rfl
theorem mw_472 : Cond.instanceMethod yX0_init ∈ xWS := xw_mem (q := 1071) rfl rfl
theorem mw_473 : Cond.instanceMethod yX1_init ∈ xWS := xw_mem (q := 1087) rfl rfl
theorem mw_474 : Cond.methodLink RX11 83 yX11_newPane ∈ xWS := xw_mem (q := 1106) rfl rfl
theorem mw_475 : Cond.static yX11_newPane ∈ xWS := xw_mem (q := 1107) rfl rfl
theorem mw_476 : Cond.instanceMethod yX2_drop ∈ xWS := xw_mem (q := 1167) rfl rfl
theorem mw_477 : Cond.methodLink RX11 87 yX2_drop ∈ xWS := xw_mem (q := 1166) rfl rfl
theorem mw_478 : Cond.selects RX2 yX2_drop yX2_drop ∈ xWS := xw_mem (q := 1168) rfl rfl
theorem mw_479 : Cond.methodLink RX11 90 yX11_isRow ∈ xWS := xw_mem (q := 1223) rfl rfl
theorem mw_480 : Cond.static yX11_isRow ∈ xWS := xw_mem (q := 1224) rfl rfl
theorem mw_481 : Cond.instanceMethod yX11_refuse ∈ xWS := xw_mem (q := 1228) rfl rfl
theorem mw_482 : Cond.methodLink RX11 94 yX11_refuse ∈ xWS := xw_mem (q := 1226) rfl rfl
theorem mw_483 : Cond.selects RX11 yX11_refuse yX11_refuse ∈ xWS := xw_mem (q := 0) rfl rfl
theorem mw_484 : Cond.methodLink RX11 98 yX0_open ∈ xWS := xw_mem (q := 1230) rfl rfl
theorem mw_485 : Cond.methodLink RX11 102 yX11_findingOfPlace ∈ xWS := xw_mem (q := 2001) rfl rfl
theorem mw_486 : Cond.static yX11_findingOfPlace ∈ xWS := xw_mem (q := 2002) rfl rfl
theorem mw_487 : Cond.methodLink RX11 106 yX0_get ∈ xWS := xw_mem (q := 2012) rfl rfl
theorem mw_488 : Cond.instanceMethod yX0_set ∈ xWS := xw_mem (q := 2018) rfl rfl
theorem mw_489 : Cond.methodLink RX11 109 yX0_set ∈ xWS := xw_mem (q := 2017) rfl rfl
theorem mw_490 : Cond.selects RX0 yX0_set yX0_set ∈ xWS := xw_mem (q := 2019) rfl rfl
theorem mw_491 : Cond.instanceMethod yX0_isMissing ∈ xWS := xw_mem (q := 2005) rfl rfl
theorem mw_492 : Cond.methodLink RX11 112 yX0_isMissing ∈ xWS := xw_mem (q := 2004) rfl rfl
theorem mw_493 : Cond.selects RX0 yX0_isMissing yX0_isMissing ∈ xWS := xw_mem (q := 2006) rfl rfl
theorem mw_494 : Cond.instanceMethod yX0_drop ∈ xWS := xw_mem (q := 2030) rfl rfl
theorem mw_495 : Cond.methodLink RX11 116 yX0_drop ∈ xWS := xw_mem (q := 2029) rfl rfl
theorem mw_496 : Cond.selects RX0 yX0_drop yX0_drop ∈ xWS := xw_mem (q := 2031) rfl rfl
theorem mw_497 : Cond.methodLink RX11 117 yX0_hasPlaces ∈ xWS := xw_mem (q := 2037) rfl rfl
theorem mw_498 : Cond.methodLink RX11 121 yX0_take ∈ xWS := xw_mem (q := 2041) rfl rfl
theorem mw_499 : Cond.methodLink RX11 125 yX0_size ∈ xWS := xw_mem (q := 2053) rfl rfl
theorem mw_500 : Cond.methodLink RX11 129 yX11_isText ∈ xWS := xw_mem (q := 2061) rfl rfl
theorem mw_501 : Cond.static yX11_isText ∈ xWS := xw_mem (q := 2062) rfl rfl
theorem mw_502 : Cond.instanceMethod yX8_read ∈ xWS := xw_mem (q := 2073) rfl rfl
theorem mw_503 : Cond.methodLink RX11 132 yX8_read ∈ xWS := xw_mem (q := 2072) rfl rfl
theorem mw_504 : Cond.selects RX8 yX8_read yX8_read ∈ xWS := xw_mem (q := 2074) rfl rfl
theorem mw_505 : Cond.instanceMethod yX2_cutTo ∈ xWS := xw_mem (q := 2107) rfl rfl
theorem mw_506 : Cond.methodLink RX11 136 yX2_cutTo ∈ xWS := xw_mem (q := 2106) rfl rfl
theorem mw_507 : Cond.selects RX2 yX2_cutTo yX2_cutTo ∈ xWS := xw_mem (q := 2108) rfl rfl
theorem mw_508 : Cond.instanceMethod yX8_glasses ∈ xWS := xw_mem (q := 2111) rfl rfl
theorem mw_509 : Cond.methodLink RX11 139 yX8_glasses ∈ xWS := xw_mem (q := 2110) rfl rfl
theorem mw_510 : Cond.selects RX8 yX8_glasses yX8_glasses ∈ xWS := xw_mem (q := 2112) rfl rfl
theorem mw_511 : Cond.instanceMethod yX11_isGlass ∈ xWS := xw_mem (q := 2120) rfl rfl
theorem mw_512 : Cond.methodLink RX11 142 yX11_isGlass ∈ xWS := xw_mem (q := 2118) rfl rfl
theorem mw_513 : Cond.selects RX11 yX11_isGlass yX11_isGlass ∈ xWS := xw_mem (q := 4) rfl rfl
theorem mw_514 : Cond.instanceMethod yX11_glassFact ∈ xWS := xw_mem (q := 2124) rfl rfl
theorem mw_515 : Cond.methodLink RX11 145 yX11_glassFact ∈ xWS := xw_mem (q := 2122) rfl rfl
theorem mw_516 : Cond.selects RX11 yX11_glassFact yX11_glassFact ∈ xWS := xw_mem (q := 5) rfl rfl
theorem mw_517 : Cond.instanceMethod yX11_paneOf ∈ xWS := xw_mem (q := 2128) rfl rfl
theorem mw_518 : Cond.methodLink RX11 149 yX11_paneOf ∈ xWS := xw_mem (q := 2126) rfl rfl
theorem mw_519 : Cond.selects RX11 yX11_paneOf yX11_paneOf ∈ xWS := xw_mem (q := 6) rfl rfl
theorem mw_520 : Cond.instanceMethod yX2_size ∈ xWS := xw_mem (q := 2171) rfl rfl
theorem mw_521 : Cond.methodLink RX11 153 yX2_size ∈ xWS := xw_mem (q := 2170) rfl rfl
theorem mw_522 : Cond.selects RX2 yX2_size yX2_size ∈ xWS := xw_mem (q := 2172) rfl rfl
theorem mw_523 : Cond.instanceMethod yX9_isOf ∈ xWS := xw_mem (q := 2179) rfl rfl
theorem mw_524 : Cond.methodLink RX11 154 yX7_isOf ∈ xWS := xw_mem (q := 2174) rfl rfl
theorem mw_525 : Cond.selects RX4 ⟨"LimpMirror$Pane", "isOf", "(I)Z"⟩ yX9_isOf ∈ xWS := xw_mem (q := 2178) rfl rfl
theorem mw_526 : Cond.instanceMethod yX5_isOf ∈ xWS := xw_mem (q := 2183) rfl rfl
theorem mw_527 : Cond.selects RX5 ⟨"LimpMirror$Pane", "isOf", "(I)Z"⟩ yX5_isOf ∈ xWS := xw_mem (q := 2182) rfl rfl
theorem mw_528 : Cond.selects RX6 ⟨"LimpMirror$Pane", "isOf", "(I)Z"⟩ yX5_isOf ∈ xWS := xw_mem (q := 2186) rfl rfl
theorem mw_529 : Cond.selects RX7 yX7_isOf yX7_isOf ∈ xWS := xw_mem (q := 2176) rfl rfl
theorem mw_530 : Cond.selects RX9 ⟨"LimpMirror$Pane", "isOf", "(I)Z"⟩ yX9_isOf ∈ xWS := xw_mem (q := 2187) rfl rfl
theorem mw_531 : Cond.selects RX10 ⟨"LimpMirror$Pane", "isOf", "(I)Z"⟩ yX7_isOf ∈ xWS := xw_mem (q := 2188) rfl rfl
theorem mw_532 : Cond.methodLink RX11 157 yX7_delay ∈ xWS := xw_mem (q := 2144) rfl rfl
theorem mw_533 : Cond.selects RX4 ⟨"LimpMirror$Pane", "delay", "()I"⟩ yX7_delay ∈ xWS := xw_mem (q := 2148) rfl rfl
theorem mw_534 : Cond.selects RX5 ⟨"LimpMirror$Pane", "delay", "()I"⟩ yX7_delay ∈ xWS := xw_mem (q := 2149) rfl rfl
theorem mw_535 : Cond.selects RX6 ⟨"LimpMirror$Pane", "delay", "()I"⟩ yX7_delay ∈ xWS := xw_mem (q := 2150) rfl rfl
theorem mw_536 : Cond.selects RX7 yX7_delay yX7_delay ∈ xWS := xw_mem (q := 2146) rfl rfl
theorem mw_537 : Cond.selects RX9 ⟨"LimpMirror$Pane", "delay", "()I"⟩ yX7_delay ∈ xWS := xw_mem (q := 2151) rfl rfl
theorem mw_538 : Cond.selects RX10 ⟨"LimpMirror$Pane", "delay", "()I"⟩ yX7_delay ∈ xWS := xw_mem (q := 2152) rfl rfl
theorem mw_539 : Cond.instanceMethod yX8_shown ∈ xWS := xw_mem (q := 2191) rfl rfl
theorem mw_540 : Cond.methodLink RX11 160 yX8_shown ∈ xWS := xw_mem (q := 2190) rfl rfl
theorem mw_541 : Cond.selects RX8 yX8_shown yX8_shown ∈ xWS := xw_mem (q := 2192) rfl rfl
theorem mw_542 : Cond.instanceMethod yX11_noughtsAtDeeds ∈ xWS := xw_mem (q := 3024) rfl rfl
theorem mw_543 : Cond.methodLink RX11 164 yX11_noughtsAtDeeds ∈ xWS := xw_mem (q := 3022) rfl rfl
theorem mw_544 : Cond.selects RX11 yX11_noughtsAtDeeds yX11_noughtsAtDeeds ∈ xWS := xw_mem (q := 7) rfl rfl
theorem mw_545 : Cond.instanceMethod yX8_stepsSeenAs ∈ xWS := xw_mem (q := 3027) rfl rfl
theorem mw_546 : Cond.methodLink RX11 168 yX8_stepsSeenAs ∈ xWS := xw_mem (q := 3026) rfl rfl
theorem mw_547 : Cond.selects RX8 yX8_stepsSeenAs yX8_stepsSeenAs ∈ xWS := xw_mem (q := 3028) rfl rfl
theorem mw_548 : Cond.methodLink RX11 172 yJ6_bitCount_0f7a4 ∈ xWS := xw_mem (q := 3030) rfl rfl
theorem mw_549 : Cond.static yJ6_bitCount_0f7a4 ∈ xWS := xw_mem (q := 3031) rfl rfl
theorem mw_550 : Cond.methodLink RX11 177 yX6_placesToLimp ∈ xWS := xw_mem (q := 3036) rfl rfl
theorem mw_551 : Cond.methodLink RX11 182 yX8_seen ∈ xWS := xw_mem (q := 3037) rfl rfl
theorem mw_552 : Cond.methodLink RX11 185 yX11_isStep ∈ xWS := xw_mem (q := 3042) rfl rfl
theorem mw_553 : Cond.methodLink RX11 188 yX8_thought ∈ xWS := xw_mem (q := 3043) rfl rfl
theorem mw_554 : Cond.instanceMethod yX8_terms ∈ xWS := xw_mem (q := 3049) rfl rfl
theorem mw_555 : Cond.methodLink RX11 191 yX8_terms ∈ xWS := xw_mem (q := 3048) rfl rfl
theorem mw_556 : Cond.selects RX8 yX8_terms yX8_terms ∈ xWS := xw_mem (q := 3050) rfl rfl
theorem mw_557 : Cond.instanceMethod yX8_termStep ∈ xWS := xw_mem (q := 3053) rfl rfl
theorem mw_558 : Cond.methodLink RX11 194 yX8_termStep ∈ xWS := xw_mem (q := 3052) rfl rfl
theorem mw_559 : Cond.selects RX8 yX8_termStep yX8_termStep ∈ xWS := xw_mem (q := 3054) rfl rfl
theorem mw_560 : Cond.instanceMethod yX11_doStep ∈ xWS := xw_mem (q := 3062) rfl rfl
theorem mw_561 : Cond.methodLink RX11 197 yX11_doStep ∈ xWS := xw_mem (q := 3060) rfl rfl
theorem mw_562 : Cond.selects RX11 yX11_doStep yX11_doStep ∈ xWS := xw_mem (q := 8) rfl rfl
theorem mw_563 : Cond.methodLink RX11 200 yX2_fact ∈ xWS := xw_mem (q := 3085) rfl rfl
theorem mw_564 : Cond.instanceMethod yX2_firstThatBroke ∈ xWS := xw_mem (q := 3091) rfl rfl
theorem mw_565 : Cond.methodLink RX11 203 yX2_firstThatBroke ∈ xWS := xw_mem (q := 3090) rfl rfl
theorem mw_566 : Cond.selects RX2 yX2_firstThatBroke yX2_firstThatBroke ∈ xWS := xw_mem (q := 3092) rfl rfl
theorem mw_567 : Cond.instanceMethod yX2_howManyBroke ∈ xWS := xw_mem (q := 3095) rfl rfl
theorem mw_568 : Cond.methodLink RX11 206 yX2_howManyBroke ∈ xWS := xw_mem (q := 3094) rfl rfl
theorem mw_569 : Cond.selects RX2 yX2_howManyBroke yX2_howManyBroke ∈ xWS := xw_mem (q := 3096) rfl rfl
theorem mw_570 : Cond.methodLink RX11 209 yX11_isKept ∈ xWS := xw_mem (q := 3106) rfl rfl
theorem mw_571 : Cond.static yX11_isKept ∈ xWS := xw_mem (q := 3107) rfl rfl
theorem mw_572 : Cond.instanceMethod yX2_takeAll ∈ xWS := xw_mem (q := 3110) rfl rfl
theorem mw_573 : Cond.methodLink RX11 212 yX2_takeAll ∈ xWS := xw_mem (q := 3109) rfl rfl
theorem mw_574 : Cond.selects RX2 yX2_takeAll yX2_takeAll ∈ xWS := xw_mem (q := 3111) rfl rfl
theorem mw_575 : Cond.instanceMethod yX2_isMissing ∈ xWS := xw_mem (q := 3119) rfl rfl
theorem mw_576 : Cond.methodLink RX11 216 yX2_isMissing ∈ xWS := xw_mem (q := 3118) rfl rfl
theorem mw_577 : Cond.selects RX2 yX2_isMissing yX2_isMissing ∈ xWS := xw_mem (q := 3120) rfl rfl
theorem mw_578 : Cond.methodLink RX11 217 yX11_findingOfSteps ∈ xWS := xw_mem (q := 3126) rfl rfl
theorem mw_579 : Cond.static yX11_findingOfSteps ∈ xWS := xw_mem (q := 3127) rfl rfl
theorem mw_580 : Cond.instanceMethod yX0_takeAll ∈ xWS := xw_mem (q := 3130) rfl rfl
theorem mw_581 : Cond.methodLink RX11 220 yX0_takeAll ∈ xWS := xw_mem (q := 3129) rfl rfl
theorem mw_582 : Cond.selects RX0 yX0_takeAll yX0_takeAll ∈ xWS := xw_mem (q := 3131) rfl rfl
theorem mw_583 : Cond.methodLink RX11 223 yX8_isBroken ∈ xWS := xw_mem (q := 3139) rfl rfl
theorem mw_584 : Cond.methodLink RX11 226 yX11_findingOfPair ∈ xWS := xw_mem (q := 3152) rfl rfl
theorem mw_585 : Cond.static yX11_findingOfPair ∈ xWS := xw_mem (q := 3153) rfl rfl
theorem mw_586 : Cond.instanceMethod yX11_findSets ∈ xWS := xw_mem (q := 3161) rfl rfl
theorem mw_587 : Cond.methodLink RX11 230 yX11_findSets ∈ xWS := xw_mem (q := 3159) rfl rfl
theorem mw_588 : Cond.selects RX11 yX11_findSets yX11_findSets ∈ xWS := xw_mem (q := 10) rfl rfl
theorem mw_589 : Cond.instanceMethod yX11_tell ∈ xWS := xw_mem (q := 3167) rfl rfl
theorem mw_590 : Cond.methodLink RX11 234 yX11_tell ∈ xWS := xw_mem (q := 3165) rfl rfl
theorem mw_591 : Cond.selects RX11 yX11_tell yX11_tell ∈ xWS := xw_mem (q := 11) rfl rfl
theorem mw_592 : Cond.methodLink RX11 238 yX11_leastOf ∈ xWS := xw_mem (q := 3176) rfl rfl
theorem mw_593 : Cond.static yX11_leastOf ∈ xWS := xw_mem (q := 3177) rfl rfl
theorem mw_594 : Cond.methodLink RX11 241 yX0_has ∈ xWS := xw_mem (q := 2008) rfl rfl
theorem mw_595 : Cond.instanceMethod yX11_lawsOf ∈ xWS := xw_mem (q := 3189) rfl rfl
theorem mw_596 : Cond.methodLink RX11 244 yX11_lawsOf ∈ xWS := xw_mem (q := 3187) rfl rfl
theorem mw_597 : Cond.selects RX11 yX11_lawsOf yX11_lawsOf ∈ xWS := xw_mem (q := 12) rfl rfl
theorem mw_598 : Cond.instanceMethod yX11_mostThatShowOneThing ∈ xWS := xw_mem (q := 3201) rfl rfl
theorem mw_599 : Cond.methodLink RX11 248 yX11_mostThatShowOneThing ∈ xWS := xw_mem (q := 3199) rfl rfl
theorem mw_600 : Cond.selects RX11 yX11_mostThatShowOneThing yX11_mostThatShowOneThing ∈ xWS := xw_mem (q := 14) rfl rfl
theorem mw_601 : Cond.instanceMethod yX11_firstNotShown ∈ xWS := xw_mem (q := 3193) rfl rfl
theorem mw_602 : Cond.methodLink RX11 251 yX11_firstNotShown ∈ xWS := xw_mem (q := 3191) rfl rfl
theorem mw_603 : Cond.selects RX11 yX11_firstNotShown yX11_firstNotShown ∈ xWS := xw_mem (q := 13) rfl rfl
theorem mw_604 : Cond.methodLink RX11 255 Lib.Math.min.name ∈ xWS := xw_mem (q := 3163) rfl rfl
theorem mw_605 : Cond.instanceMethod yX1_weigh ∈ xWS := xw_mem (q := 3213) rfl rfl
theorem mw_606 : Cond.methodLink RX11 260 yX1_weigh ∈ xWS := xw_mem (q := 3212) rfl rfl
theorem mw_607 : Cond.selects RX1 yX1_weigh yX1_weigh ∈ xWS := xw_mem (q := 3214) rfl rfl
theorem mw_608 : Cond.instanceMethod yX1_rows ∈ xWS := xw_mem (q := 3238) rfl rfl
theorem mw_609 : Cond.methodLink RX11 264 yX1_rows ∈ xWS := xw_mem (q := 3237) rfl rfl
theorem mw_610 : Cond.selects RX1 yX1_rows yX1_rows ∈ xWS := xw_mem (q := 3239) rfl rfl
theorem mw_611 : Cond.instanceMethod yX1_firstSteps ∈ xWS := xw_mem (q := 4002) rfl rfl
theorem mw_612 : Cond.methodLink RX11 266 yX1_firstSteps ∈ xWS := xw_mem (q := 4001) rfl rfl
theorem mw_613 : Cond.selects RX1 yX1_firstSteps yX1_firstSteps ∈ xWS := xw_mem (q := 4003) rfl rfl
theorem mw_614 : Cond.instanceMethod yX1_fewestStill ∈ xWS := xw_mem (q := 4010) rfl rfl
theorem mw_615 : Cond.methodLink RX11 269 yX1_fewestStill ∈ xWS := xw_mem (q := 4009) rfl rfl
theorem mw_616 : Cond.selects RX1 yX1_fewestStill yX1_fewestStill ∈ xWS := xw_mem (q := 4011) rfl rfl
theorem mw_617 : Cond.instanceMethod yX11_leastPick ∈ xWS := xw_mem (q := 4019) rfl rfl
theorem mw_618 : Cond.methodLink RX11 272 yX11_leastPick ∈ xWS := xw_mem (q := 4017) rfl rfl
theorem mw_619 : Cond.selects RX11 yX11_leastPick yX11_leastPick ∈ xWS := xw_mem (q := 17) rfl rfl
theorem mw_620 : Cond.instanceMethod yX11_breakingOfTwelve ∈ xWS := xw_mem (q := 4035) rfl rfl
theorem mw_621 : Cond.methodLink RX11 275 yX11_breakingOfTwelve ∈ xWS := xw_mem (q := 4033) rfl rfl
theorem mw_622 : Cond.selects RX11 yX11_breakingOfTwelve yX11_breakingOfTwelve ∈ xWS := xw_mem (q := 19) rfl rfl
theorem mw_623 : Cond.instanceMethod yX11_glassesOf ∈ xWS := xw_mem (q := 4068) rfl rfl
theorem mw_624 : Cond.methodLink RX11 289 yX11_glassesOf ∈ xWS := xw_mem (q := 4066) rfl rfl
theorem mw_625 : Cond.selects RX11 yX11_glassesOf yX11_glassesOf ∈ xWS := xw_mem (q := 20) rfl rfl
theorem mw_626 : Cond.methodLink RX11 292 yX11_howManyThere ∈ xWS := xw_mem (q := 4070) rfl rfl
theorem mw_627 : Cond.static yX11_howManyThere ∈ xWS := xw_mem (q := 4071) rfl rfl
theorem mw_628 : Cond.instanceMethod yX11_keptOnes ∈ xWS := xw_mem (q := 4075) rfl rfl
theorem mw_629 : Cond.methodLink RX11 296 yX11_keptOnes ∈ xWS := xw_mem (q := 4073) rfl rfl
theorem mw_630 : Cond.selects RX11 yX11_keptOnes yX11_keptOnes ∈ xWS := xw_mem (q := 21) rfl rfl
theorem mw_631 : Cond.instanceMethod yX11_count ∈ xWS := xw_mem (q := 4063) rfl rfl
theorem mw_632 : Cond.methodLink RX11 303 yX11_count ∈ xWS := xw_mem (q := 4091) rfl rfl
theorem mw_633 : Cond.selects RX11 yX11_count yX11_count ∈ xWS := xw_mem (q := 4064) rfl rfl
theorem mw_634 : Cond.methodLink RX11 306 yX11_digestOf ∈ xWS := xw_mem (q := 4092) rfl rfl
theorem mw_635 : Cond.static yX11_digestOf ∈ xWS := xw_mem (q := 4093) rfl rfl
theorem mw_636 : Cond.methodLink RX11 312 yX5_init ∈ xWS := xw_mem (q := 1111) rfl rfl
theorem mw_637 : Cond.methodLink RX11 316 yX9_init ∈ xWS := xw_mem (q := 1127) rfl rfl
theorem mw_638 : Cond.methodLink RX11 319 yX10_init ∈ xWS := xw_mem (q := 1136) rfl rfl
theorem mw_639 : Cond.instanceMethod yX10_init ∈ xWS := xw_mem (q := 1137) rfl rfl
theorem mw_640 : Cond.methodLink RX11 320 yX6_init ∈ xWS := xw_mem (q := 1145) rfl rfl
theorem mw_641 : Cond.instanceMethod yX6_init ∈ xWS := xw_mem (q := 1146) rfl rfl
theorem mw_642 : Cond.methodLink RX11 323 yX4_init ∈ xWS := xw_mem (q := 1154) rfl rfl
theorem mw_643 : Cond.instanceMethod yX4_init ∈ xWS := xw_mem (q := 1155) rfl rfl
theorem mw_644 : Cond.methodLink RX11 324 yX7_init ∈ xWS := xw_mem (q := 1162) rfl rfl
theorem mw_645 : Cond.instanceMethod yX8_lawOf ∈ xWS := xw_mem (q := 2131) rfl rfl
theorem mw_646 : Cond.methodLink RX11 325 yX8_lawOf ∈ xWS := xw_mem (q := 2130) rfl rfl
theorem mw_647 : Cond.selects RX8 yX8_lawOf yX8_lawOf ∈ xWS := xw_mem (q := 2132) rfl rfl
theorem mw_648 : Cond.instanceMethod yX7_kind ∈ xWS := xw_mem (q := 2135) rfl rfl
theorem mw_649 : Cond.methodLink RX11 328 yX7_kind ∈ xWS := xw_mem (q := 2134) rfl rfl
theorem mw_650 : Cond.selects RX4 ⟨"LimpMirror$Pane", "kind", "()I"⟩ yX7_kind ∈ xWS := xw_mem (q := 2138) rfl rfl
theorem mw_651 : Cond.selects RX5 ⟨"LimpMirror$Pane", "kind", "()I"⟩ yX7_kind ∈ xWS := xw_mem (q := 2139) rfl rfl
theorem mw_652 : Cond.selects RX6 ⟨"LimpMirror$Pane", "kind", "()I"⟩ yX7_kind ∈ xWS := xw_mem (q := 2140) rfl rfl
theorem mw_653 : Cond.selects RX7 yX7_kind yX7_kind ∈ xWS := xw_mem (q := 2136) rfl rfl
theorem mw_654 : Cond.selects RX9 ⟨"LimpMirror$Pane", "kind", "()I"⟩ yX7_kind ∈ xWS := xw_mem (q := 2141) rfl rfl
theorem mw_655 : Cond.selects RX10 ⟨"LimpMirror$Pane", "kind", "()I"⟩ yX7_kind ∈ xWS := xw_mem (q := 2142) rfl rfl
theorem mw_656 : Cond.instanceMethod yX2_howManyBefore ∈ xWS := xw_mem (q := 2155) rfl rfl
theorem mw_657 : Cond.methodLink RX11 331 yX2_howManyBefore ∈ xWS := xw_mem (q := 2154) rfl rfl
theorem mw_658 : Cond.selects RX2 yX2_howManyBefore yX2_howManyBefore ∈ xWS := xw_mem (q := 2156) rfl rfl
theorem mw_659 : Cond.instanceMethod yX2_howManyBrokeBefore ∈ xWS := xw_mem (q := 2163) rfl rfl
theorem mw_660 : Cond.methodLink RX11 334 yX2_howManyBrokeBefore ∈ xWS := xw_mem (q := 2162) rfl rfl
theorem mw_661 : Cond.selects RX2 yX2_howManyBrokeBefore yX2_howManyBrokeBefore ∈ xWS := xw_mem (q := 2164) rfl rfl
theorem mw_662 : Cond.instanceMethod yX2_add ∈ xWS := xw_mem (q := 3065) rfl rfl
theorem mw_663 : Cond.methodLink RX11 337 yX2_add ∈ xWS := xw_mem (q := 3064) rfl rfl
theorem mw_664 : Cond.selects RX2 yX2_add yX2_add ∈ xWS := xw_mem (q := 3066) rfl rfl
theorem mw_665 : Cond.methodLink RX11 340 yX8_firstBroken ∈ xWS := xw_mem (q := 3076) rfl rfl
theorem mw_666 : Cond.methodLink RX11 343 yX2_see ∈ xWS := xw_mem (q := 3080) rfl rfl
theorem mw_667 : Cond.methodLink RX11 347 yX7_source ∈ xWS := xw_mem (q := 3164) rfl rfl
theorem mw_668 : Cond.methodLink RX11 350 Lib.Math.max.name ∈ xWS := xw_mem (q := 3203) rfl rfl
theorem mw_669 : Cond.instanceMethod yX11_isSafeBeforeAll ∈ xWS := xw_mem (q := 4023) rfl rfl
theorem mw_670 : Cond.methodLink RX11 353 yX11_isSafeBeforeAll ∈ xWS := xw_mem (q := 4021) rfl rfl
theorem mw_671 : Cond.selects RX11 yX11_isSafeBeforeAll yX11_isSafeBeforeAll ∈ xWS := xw_mem (q := 18) rfl rfl
theorem mw_672 : Cond.methodLink RX11 356 yX11_commonDivisor ∈ xWS := xw_mem (q := 3169) rfl rfl
theorem mw_673 : Cond.static yX11_commonDivisor ∈ xWS := xw_mem (q := 3170) rfl rfl
theorem mw_674 : Cond.methodLink RX12 1 objectInit ∈ xWS := xw_mem (q := 4100) rfl rfl
theorem mw_675 : Cond.methodLink RX12 81 yX12_in ∈ xWS := xw_mem (q := 4205) rfl rfl
theorem mw_676 : Cond.static yX12_in ∈ xWS := xw_mem (q := 4206) rfl rfl
theorem mw_677 : Cond.methodLink RX12 85 yX12_isRow ∈ xWS := xw_mem (q := 4202) rfl rfl
theorem mw_678 : Cond.static yX12_isRow ∈ xWS := xw_mem (q := 4203) rfl rfl
theorem mw_679 : Cond.instanceMethod yX12_finds ∈ xWS := xw_mem (q := 4210) rfl rfl
theorem mw_680 : Cond.methodLink RX12 89 yX12_finds ∈ xWS := xw_mem (q := 4208) rfl rfl
theorem mw_681 : Cond.selects RX12 yX12_finds yX12_finds ∈ xWS := xw_mem (q := 22) rfl rfl
theorem mw_682 : Cond.instanceMethod yX12_wrongAt ∈ xWS := xw_mem (q := 4218) rfl rfl
theorem mw_683 : Cond.methodLink RX12 93 yX12_wrongAt ∈ xWS := xw_mem (q := 4216) rfl rfl
theorem mw_684 : Cond.selects RX12 yX12_wrongAt yX12_wrongAt ∈ xWS := xw_mem (q := 23) rfl rfl
theorem mw_685 : Cond.instanceMethod yX12_tells ∈ xWS := xw_mem (q := 4222) rfl rfl
theorem mw_686 : Cond.methodLink RX12 97 yX12_tells ∈ xWS := xw_mem (q := 4220) rfl rfl
theorem mw_687 : Cond.selects RX12 yX12_tells yX12_tells ∈ xWS := xw_mem (q := 24) rfl rfl
theorem mw_688 : Cond.methodLink RX12 100 yX12_isPart ∈ xWS := xw_mem (q := 4236) rfl rfl
theorem mw_689 : Cond.static yX12_isPart ∈ xWS := xw_mem (q := 4237) rfl rfl
theorem mw_690 : Cond.methodLink RX12 103 yX12_isText ∈ xWS := xw_mem (q := 5007) rfl rfl
theorem mw_691 : Cond.static yX12_isText ∈ xWS := xw_mem (q := 5008) rfl rfl
theorem mw_692 : Cond.instanceMethod yX12_letter ∈ xWS := xw_mem (q := 5032) rfl rfl
theorem mw_693 : Cond.methodLink RX12 115 yX12_letter ∈ xWS := xw_mem (q := 5030) rfl rfl
theorem mw_694 : Cond.selects RX12 yX12_letter yX12_letter ∈ xWS := xw_mem (q := 28) rfl rfl
theorem mw_695 : Cond.instanceMethod yX12_skip ∈ xWS := xw_mem (q := 5028) rfl rfl
theorem mw_696 : Cond.methodLink RX12 119 yX12_skip ∈ xWS := xw_mem (q := 5026) rfl rfl
theorem mw_697 : Cond.selects RX12 yX12_skip yX12_skip ∈ xWS := xw_mem (q := 27) rfl rfl
theorem mw_698 : Cond.instanceMethod yX12_figure ∈ xWS := xw_mem (q := 5036) rfl rfl
theorem mw_699 : Cond.methodLink RX12 122 yX12_figure ∈ xWS := xw_mem (q := 5034) rfl rfl
theorem mw_700 : Cond.selects RX12 yX12_figure yX12_figure ∈ xWS := xw_mem (q := 29) rfl rfl
theorem mw_701 : Cond.methodLink RX12 131 yX12_kindBy ∈ xWS := xw_mem (q := 5038) rfl rfl
theorem mw_702 : Cond.static yX12_kindBy ∈ xWS := xw_mem (q := 5039) rfl rfl
theorem mw_703 : Cond.instanceMethod yX12_areHabits ∈ xWS := xw_mem (q := 5024) rfl rfl
theorem mw_704 : Cond.methodLink RX12 134 yX12_areHabits ∈ xWS := xw_mem (q := 5022) rfl rfl
theorem mw_705 : Cond.selects RX12 yX12_areHabits yX12_areHabits ∈ xWS := xw_mem (q := 26) rfl rfl
theorem mw_706 : Cond.instanceMethod yX12_isGlassItem ∈ xWS := xw_mem (q := 5043) rfl rfl
theorem mw_707 : Cond.methodLink RX12 138 yX12_isGlassItem ∈ xWS := xw_mem (q := 5041) rfl rfl
theorem mw_708 : Cond.selects RX12 yX12_isGlassItem yX12_isGlassItem ∈ xWS := xw_mem (q := 30) rfl rfl
theorem mw_709 : Cond.instanceMethod yX12_isTermItem ∈ xWS := xw_mem (q := 5047) rfl rfl
theorem mw_710 : Cond.methodLink RX12 141 yX12_isTermItem ∈ xWS := xw_mem (q := 5045) rfl rfl
theorem mw_711 : Cond.selects RX12 yX12_isTermItem yX12_isTermItem ∈ xWS := xw_mem (q := 31) rfl rfl
theorem mw_712 : Cond.instanceMethod yX12_isRoom ∈ xWS := xw_mem (q := 5020) rfl rfl
theorem mw_713 : Cond.methodLink RX12 144 yX12_isRoom ∈ xWS := xw_mem (q := 5018) rfl rfl
theorem mw_714 : Cond.selects RX12 yX12_isRoom yX12_isRoom ∈ xWS := xw_mem (q := 25) rfl rfl
theorem mw_715 : Cond.methodLink RX12 156 yX12_mirrored ∈ xWS := xw_mem (q := 5077) rfl rfl
theorem mw_716 : Cond.static yX12_mirrored ∈ xWS := xw_mem (q := 5078) rfl rfl
theorem mw_717 : Cond.instanceMethod yX12_showsBy ∈ xWS := xw_mem (q := 5075) rfl rfl
theorem mw_718 : Cond.methodLink RX12 159 yX12_showsBy ∈ xWS := xw_mem (q := 5073) rfl rfl
theorem mw_719 : Cond.selects RX12 yX12_showsBy yX12_showsBy ∈ xWS := xw_mem (q := 36) rfl rfl
theorem mw_720 : Cond.instanceMethod yX12_showsOf ∈ xWS := xw_mem (q := 5071) rfl rfl
theorem mw_721 : Cond.methodLink RX12 163 yX12_showsOf ∈ xWS := xw_mem (q := 5069) rfl rfl
theorem mw_722 : Cond.selects RX12 yX12_showsOf yX12_showsOf ∈ xWS := xw_mem (q := 35) rfl rfl
theorem mw_723 : Cond.instanceMethod yX12_shownOf ∈ xWS := xw_mem (q := 5067) rfl rfl
theorem mw_724 : Cond.methodLink RX12 167 yX12_shownOf ∈ xWS := xw_mem (q := 5065) rfl rfl
theorem mw_725 : Cond.selects RX12 yX12_shownOf yX12_shownOf ∈ xWS := xw_mem (q := 34) rfl rfl
theorem mw_726 : Cond.instanceMethod yX12_termBy ∈ xWS := xw_mem (q := 5082) rfl rfl
theorem mw_727 : Cond.methodLink RX12 170 yX12_termBy ∈ xWS := xw_mem (q := 5080) rfl rfl
theorem mw_728 : Cond.selects RX12 yX12_termBy yX12_termBy ∈ xWS := xw_mem (q := 37) rfl rfl
theorem mw_729 : Cond.instanceMethod yX12_isGlass ∈ xWS := xw_mem (q := 5059) rfl rfl
theorem mw_730 : Cond.methodLink RX12 173 yX12_isGlass ∈ xWS := xw_mem (q := 5057) rfl rfl
theorem mw_731 : Cond.selects RX12 yX12_isGlass yX12_isGlass ∈ xWS := xw_mem (q := 32) rfl rfl
theorem mw_732 : Cond.instanceMethod yX12_brokenBy ∈ xWS := xw_mem (q := 5063) rfl rfl
theorem mw_733 : Cond.methodLink RX12 176 yX12_brokenBy ∈ xWS := xw_mem (q := 5061) rfl rfl
theorem mw_734 : Cond.selects RX12 yX12_brokenBy yX12_brokenBy ∈ xWS := xw_mem (q := 33) rfl rfl
theorem mw_735 : Cond.methodLink RX12 179 yX12_isOf ∈ xWS := xw_mem (q := 5088) rfl rfl
theorem mw_736 : Cond.static yX12_isOf ∈ xWS := xw_mem (q := 5089) rfl rfl
theorem mw_737 : Cond.methodLink RX12 183 yX12_isStep ∈ xWS := xw_mem (q := 5095) rfl rfl
theorem mw_738 : Cond.static yX12_isStep ∈ xWS := xw_mem (q := 5096) rfl rfl
theorem mw_739 : Cond.instanceMethod yX12_doStep ∈ xWS := xw_mem (q := 5108) rfl rfl
theorem mw_740 : Cond.methodLink RX12 186 yX12_doStep ∈ xWS := xw_mem (q := 5106) rfl rfl
theorem mw_741 : Cond.selects RX12 yX12_doStep yX12_doStep ∈ xWS := xw_mem (q := 38) rfl rfl
theorem mw_742 : Cond.instanceMethod yX12_brokenMany ∈ xWS := xw_mem (q := 5120) rfl rfl
theorem mw_743 : Cond.methodLink RX12 189 yX12_brokenMany ∈ xWS := xw_mem (q := 5118) rfl rfl
theorem mw_744 : Cond.selects RX12 yX12_brokenMany yX12_brokenMany ∈ xWS := xw_mem (q := 39) rfl rfl
theorem mw_745 : Cond.instanceMethod yX12_takeOut ∈ xWS := xw_mem (q := 5140) rfl rfl
theorem mw_746 : Cond.methodLink RX12 192 yX12_takeOut ∈ xWS := xw_mem (q := 5138) rfl rfl
theorem mw_747 : Cond.selects RX12 yX12_takeOut yX12_takeOut ∈ xWS := xw_mem (q := 40) rfl rfl
theorem mw_748 : Cond.instanceMethod yX12_layRow ∈ xWS := xw_mem (q := 5144) rfl rfl
theorem mw_749 : Cond.methodLink RX12 196 yX12_layRow ∈ xWS := xw_mem (q := 5142) rfl rfl
theorem mw_750 : Cond.selects RX12 yX12_layRow yX12_layRow ∈ xWS := xw_mem (q := 41) rfl rfl
theorem mw_751 : Cond.instanceMethod yX12_breaksAt ∈ xWS := xw_mem (q := 5152) rfl rfl
theorem mw_752 : Cond.methodLink RX12 199 yX12_breaksAt ∈ xWS := xw_mem (q := 5150) rfl rfl
theorem mw_753 : Cond.selects RX12 yX12_breaksAt yX12_breaksAt ∈ xWS := xw_mem (q := 42) rfl rfl
theorem mw_754 : Cond.instanceMethod yX12_takeTwo ∈ xWS := xw_mem (q := 5164) rfl rfl
theorem mw_755 : Cond.methodLink RX12 202 yX12_takeTwo ∈ xWS := xw_mem (q := 5162) rfl rfl
theorem mw_756 : Cond.selects RX12 yX12_takeTwo yX12_takeTwo ∈ xWS := xw_mem (q := 43) rfl rfl
theorem mw_757 : Cond.methodLink RX12 205 yX12_rowsOf ∈ xWS := xw_mem (q := 5170) rfl rfl
theorem mw_758 : Cond.static yX12_rowsOf ∈ xWS := xw_mem (q := 5171) rfl rfl
theorem mw_759 : Cond.instanceMethod yX12_layDoings ∈ xWS := xw_mem (q := 5175) rfl rfl
theorem mw_760 : Cond.methodLink RX12 208 yX12_layDoings ∈ xWS := xw_mem (q := 5173) rfl rfl
theorem mw_761 : Cond.selects RX12 yX12_layDoings yX12_layDoings ∈ xWS := xw_mem (q := 44) rfl rfl
theorem mw_762 : Cond.instanceMethod yX12_shows ∈ xWS := xw_mem (q := 5179) rfl rfl
theorem mw_763 : Cond.methodLink RX12 212 yX12_shows ∈ xWS := xw_mem (q := 5177) rfl rfl
theorem mw_764 : Cond.selects RX12 yX12_shows yX12_shows ∈ xWS := xw_mem (q := 45) rfl rfl
theorem mw_765 : Cond.instanceMethod yX12_tellParts ∈ xWS := xw_mem (q := 5183) rfl rfl
theorem mw_766 : Cond.methodLink RX12 215 yX12_tellParts ∈ xWS := xw_mem (q := 5181) rfl rfl
theorem mw_767 : Cond.selects RX12 yX12_tellParts yX12_tellParts ∈ xWS := xw_mem (q := 46) rfl rfl
theorem mw_768 : Cond.instanceMethod yX12_lawsOf ∈ xWS := xw_mem (q := 5199) rfl rfl
theorem mw_769 : Cond.methodLink RX12 219 yX12_lawsOf ∈ xWS := xw_mem (q := 5197) rfl rfl
theorem mw_770 : Cond.selects RX12 yX12_lawsOf yX12_lawsOf ∈ xWS := xw_mem (q := 47) rfl rfl
theorem mw_771 : Cond.methodLink RX12 222 yX12_bits ∈ xWS := xw_mem (q := 5205) rfl rfl
theorem mw_772 : Cond.static yX12_bits ∈ xWS := xw_mem (q := 5206) rfl rfl
theorem mw_773 : Cond.methodLink RX12 225 yX12_has ∈ xWS := xw_mem (q := 5208) rfl rfl
theorem mw_774 : Cond.static yX12_has ∈ xWS := xw_mem (q := 5209) rfl rfl
theorem mw_775 : Cond.instanceMethod yX12_breaksNone ∈ xWS := xw_mem (q := 5221) rfl rfl
theorem mw_776 : Cond.methodLink RX12 228 yX12_breaksNone ∈ xWS := xw_mem (q := 5219) rfl rfl
theorem mw_777 : Cond.selects RX12 yX12_breaksNone yX12_breaksNone ∈ xWS := xw_mem (q := 48) rfl rfl
theorem mw_778 : Cond.instanceMethod yX12_isSafe ∈ xWS := xw_mem (q := 5237) rfl rfl
theorem mw_779 : Cond.methodLink RX12 231 yX12_isSafe ∈ xWS := xw_mem (q := 5235) rfl rfl
theorem mw_780 : Cond.selects RX12 yX12_isSafe yX12_isSafe ∈ xWS := xw_mem (q := 50) rfl rfl
theorem mw_781 : Cond.instanceMethod yX12_gameBy ∈ xWS := xw_mem (q := 5233) rfl rfl
theorem mw_782 : Cond.methodLink RX12 234 yX12_gameBy ∈ xWS := xw_mem (q := 5231) rfl rfl
theorem mw_783 : Cond.selects RX12 yX12_gameBy yX12_gameBy ∈ xWS := xw_mem (q := 49) rfl rfl
theorem mw_784 : Cond.instanceMethod yX12_kindsOf ∈ xWS := xw_mem (q := 6043) rfl rfl
theorem mw_785 : Cond.methodLink RX12 248 yX12_kindsOf ∈ xWS := xw_mem (q := 6041) rfl rfl
theorem mw_786 : Cond.selects RX12 yX12_kindsOf yX12_kindsOf ∈ xWS := xw_mem (q := 52) rfl rfl
theorem mw_787 : Cond.methodLink RX12 251 yX12_thereOf ∈ xWS := xw_mem (q := 6045) rfl rfl
theorem mw_788 : Cond.static yX12_thereOf ∈ xWS := xw_mem (q := 6046) rfl rfl
theorem mw_789 : Cond.instanceMethod yX12_countOf ∈ xWS := xw_mem (q := 6039) rfl rfl
theorem mw_790 : Cond.methodLink RX12 255 yX12_countOf ∈ xWS := xw_mem (q := 6037) rfl rfl
theorem mw_791 : Cond.selects RX12 yX12_countOf yX12_countOf ∈ xWS := xw_mem (q := 51) rfl rfl
theorem mw_792 : Cond.instanceMethod yX12_add ∈ xWS := xw_mem (q := 6063) rfl rfl
theorem mw_793 : Cond.methodLink RX12 265 yX12_add ∈ xWS := xw_mem (q := 6061) rfl rfl
theorem mw_794 : Cond.selects RX12 yX12_add yX12_add ∈ xWS := xw_mem (q := 53) rfl rfl
theorem mw_795 : Cond.methodLink RL 9 yX11_init ∈ xWS := xw_mem (q := 1019) rfl rfl
theorem mw_796 : Cond.instanceMethod yX11_init ∈ xWS := xw_mem (q := 1020) rfl rfl
theorem mw_797 : Cond.methodLink RL 12 yX12_init ∈ xWS := xw_mem (q := 4097) rfl rfl
theorem mw_798 : Cond.instanceMethod yX12_init ∈ xWS := xw_mem (q := 4098) rfl rfl
theorem mw_799 : Cond.instanceMethod yX11_row ∈ xWS := xw_mem (q := 1220) rfl rfl
theorem mw_800 : Cond.methodLink RL 13 yX11_row ∈ xWS := xw_mem (q := 1219) rfl rfl
theorem mw_801 : Cond.selects RX11 yX11_row yX11_row ∈ xWS := xw_mem (q := 1221) rfl rfl
theorem mw_802 : Cond.instanceMethod yX12_row ∈ xWS := xw_mem (q := 4199) rfl rfl
theorem mw_803 : Cond.methodLink RL 17 yX12_row ∈ xWS := xw_mem (q := 4198) rfl rfl
theorem mw_804 : Cond.selects RX12 yX12_row yX12_row ∈ xWS := xw_mem (q := 4200) rfl rfl
theorem mw_805 : Cond.instanceMethod yX11_lay ∈ xWS := xw_mem (q := 1238) rfl rfl
theorem mw_806 : Cond.methodLink RL 18 yX11_lay ∈ xWS := xw_mem (q := 1237) rfl rfl
theorem mw_807 : Cond.selects RX11 yX11_lay yX11_lay ∈ xWS := xw_mem (q := 1239) rfl rfl
theorem mw_808 : Cond.instanceMethod yX12_lay ∈ xWS := xw_mem (q := 4213) rfl rfl
theorem mw_809 : Cond.methodLink RL 22 yX12_lay ∈ xWS := xw_mem (q := 4212) rfl rfl
theorem mw_810 : Cond.selects RX12 yX12_lay yX12_lay ∈ xWS := xw_mem (q := 4214) rfl rfl
theorem mw_811 : Cond.instanceMethod yX11_at ∈ xWS := xw_mem (q := 2022) rfl rfl
theorem mw_812 : Cond.methodLink RL 23 yX11_at ∈ xWS := xw_mem (q := 2021) rfl rfl
theorem mw_813 : Cond.selects RX11 yX11_at yX11_at ∈ xWS := xw_mem (q := 2023) rfl rfl
theorem mw_814 : Cond.instanceMethod yX12_at ∈ xWS := xw_mem (q := 4225) rfl rfl
theorem mw_815 : Cond.methodLink RL 26 yX12_at ∈ xWS := xw_mem (q := 4224) rfl rfl
theorem mw_816 : Cond.selects RX12 yX12_at yX12_at ∈ xWS := xw_mem (q := 4226) rfl rfl
theorem mw_817 : Cond.instanceMethod yX11_tear ∈ xWS := xw_mem (q := 2026) rfl rfl
theorem mw_818 : Cond.methodLink RL 27 yX11_tear ∈ xWS := xw_mem (q := 2025) rfl rfl
theorem mw_819 : Cond.selects RX11 yX11_tear yX11_tear ∈ xWS := xw_mem (q := 2027) rfl rfl
theorem mw_820 : Cond.instanceMethod yX12_tear ∈ xWS := xw_mem (q := 4229) rfl rfl
theorem mw_821 : Cond.methodLink RL 31 yX12_tear ∈ xWS := xw_mem (q := 4228) rfl rfl
theorem mw_822 : Cond.selects RX12 yX12_tear yX12_tear ∈ xWS := xw_mem (q := 4230) rfl rfl
theorem mw_823 : Cond.instanceMethod yX11_copy ∈ xWS := xw_mem (q := 2034) rfl rfl
theorem mw_824 : Cond.methodLink RL 32 yX11_copy ∈ xWS := xw_mem (q := 2033) rfl rfl
theorem mw_825 : Cond.selects RX11 yX11_copy yX11_copy ∈ xWS := xw_mem (q := 2035) rfl rfl
theorem mw_826 : Cond.instanceMethod yX12_copy ∈ xWS := xw_mem (q := 4233) rfl rfl
theorem mw_827 : Cond.methodLink RL 36 yX12_copy ∈ xWS := xw_mem (q := 4232) rfl rfl
theorem mw_828 : Cond.selects RX12 yX12_copy yX12_copy ∈ xWS := xw_mem (q := 4234) rfl rfl
theorem mw_829 : Cond.instanceMethod yX11_mean ∈ xWS := xw_mem (q := 2050) rfl rfl
theorem mw_830 : Cond.methodLink RL 37 yX11_mean ∈ xWS := xw_mem (q := 2049) rfl rfl
theorem mw_831 : Cond.selects RX11 yX11_mean yX11_mean ∈ xWS := xw_mem (q := 2051) rfl rfl
theorem mw_832 : Cond.instanceMethod yX12_mean ∈ xWS := xw_mem (q := 5000) rfl rfl
theorem mw_833 : Cond.methodLink RL 40 yX12_mean ∈ xWS := xw_mem (q := 4239) rfl rfl
theorem mw_834 : Cond.selects RX12 yX12_mean yX12_mean ∈ xWS := xw_mem (q := 5001) rfl rfl
theorem mw_835 : Cond.instanceMethod yX11_text ∈ xWS := xw_mem (q := 2058) rfl rfl
theorem mw_836 : Cond.methodLink RL 41 yX11_text ∈ xWS := xw_mem (q := 2057) rfl rfl
theorem mw_837 : Cond.selects RX11 yX11_text yX11_text ∈ xWS := xw_mem (q := 2059) rfl rfl
theorem mw_838 : Cond.instanceMethod yX12_text ∈ xWS := xw_mem (q := 5004) rfl rfl
theorem mw_839 : Cond.methodLink RL 44 yX12_text ∈ xWS := xw_mem (q := 5003) rfl rfl
theorem mw_840 : Cond.selects RX12 yX12_text yX12_text ∈ xWS := xw_mem (q := 5005) rfl rfl
theorem mw_841 : Cond.instanceMethod yX11_put ∈ xWS := xw_mem (q := 2065) rfl rfl
theorem mw_842 : Cond.methodLink RL 45 yX11_put ∈ xWS := xw_mem (q := 2064) rfl rfl
theorem mw_843 : Cond.selects RX11 yX11_put yX11_put ∈ xWS := xw_mem (q := 2066) rfl rfl
theorem mw_844 : Cond.instanceMethod yX12_put ∈ xWS := xw_mem (q := 5011) rfl rfl
theorem mw_845 : Cond.methodLink RL 48 yX12_put ∈ xWS := xw_mem (q := 5010) rfl rfl
theorem mw_846 : Cond.selects RX12 yX12_put yX12_put ∈ xWS := xw_mem (q := 5012) rfl rfl
theorem mw_847 : Cond.instanceMethod yX11_fault ∈ xWS := xw_mem (q := 2069) rfl rfl
theorem mw_848 : Cond.methodLink RL 49 yX11_fault ∈ xWS := xw_mem (q := 2068) rfl rfl
theorem mw_849 : Cond.selects RX11 yX11_fault yX11_fault ∈ xWS := xw_mem (q := 2070) rfl rfl
theorem mw_850 : Cond.instanceMethod yX12_fault ∈ xWS := xw_mem (q := 5015) rfl rfl
theorem mw_851 : Cond.methodLink RL 52 yX12_fault ∈ xWS := xw_mem (q := 5014) rfl rfl
theorem mw_852 : Cond.selects RX12 yX12_fault yX12_fault ∈ xWS := xw_mem (q := 5016) rfl rfl
theorem mw_853 : Cond.instanceMethod yX11_room ∈ xWS := xw_mem (q := 2103) rfl rfl
theorem mw_854 : Cond.methodLink RL 53 yX11_room ∈ xWS := xw_mem (q := 2102) rfl rfl
theorem mw_855 : Cond.selects RX11 yX11_room yX11_room ∈ xWS := xw_mem (q := 2104) rfl rfl
theorem mw_856 : Cond.instanceMethod yX12_room ∈ xWS := xw_mem (q := 5050) rfl rfl
theorem mw_857 : Cond.methodLink RL 56 yX12_room ∈ xWS := xw_mem (q := 5049) rfl rfl
theorem mw_858 : Cond.selects RX12 yX12_room yX12_room ∈ xWS := xw_mem (q := 5051) rfl rfl
theorem mw_859 : Cond.instanceMethod yX11_glass ∈ xWS := xw_mem (q := 2115) rfl rfl
theorem mw_860 : Cond.methodLink RL 57 yX11_glass ∈ xWS := xw_mem (q := 2114) rfl rfl
theorem mw_861 : Cond.selects RX11 yX11_glass yX11_glass ∈ xWS := xw_mem (q := 2116) rfl rfl
theorem mw_862 : Cond.instanceMethod yX12_glass ∈ xWS := xw_mem (q := 5054) rfl rfl
theorem mw_863 : Cond.methodLink RL 60 yX12_glass ∈ xWS := xw_mem (q := 5053) rfl rfl
theorem mw_864 : Cond.selects RX12 yX12_glass yX12_glass ∈ xWS := xw_mem (q := 5055) rfl rfl
theorem mw_865 : Cond.instanceMethod yX11_mark ∈ xWS := xw_mem (q := 2167) rfl rfl
theorem mw_866 : Cond.methodLink RL 61 yX11_mark ∈ xWS := xw_mem (q := 2166) rfl rfl
theorem mw_867 : Cond.selects RX11 yX11_mark yX11_mark ∈ xWS := xw_mem (q := 2168) rfl rfl
theorem mw_868 : Cond.instanceMethod yX12_mark ∈ xWS := xw_mem (q := 5085) rfl rfl
theorem mw_869 : Cond.methodLink RL 64 yX12_mark ∈ xWS := xw_mem (q := 5084) rfl rfl
theorem mw_870 : Cond.selects RX12 yX12_mark yX12_mark ∈ xWS := xw_mem (q := 5086) rfl rfl
theorem mw_871 : Cond.instanceMethod yX11_habit ∈ xWS := xw_mem (q := 3039) rfl rfl
theorem mw_872 : Cond.methodLink RL 65 yX11_habit ∈ xWS := xw_mem (q := 3038) rfl rfl
theorem mw_873 : Cond.selects RX11 yX11_habit yX11_habit ∈ xWS := xw_mem (q := 3040) rfl rfl
theorem mw_874 : Cond.instanceMethod yX12_habit ∈ xWS := xw_mem (q := 5092) rfl rfl
theorem mw_875 : Cond.methodLink RL 68 yX12_habit ∈ xWS := xw_mem (q := 5091) rfl rfl
theorem mw_876 : Cond.selects RX12 yX12_habit yX12_habit ∈ xWS := xw_mem (q := 5093) rfl rfl
theorem mw_877 : Cond.instanceMethod yX11_term ∈ xWS := xw_mem (q := 3045) rfl rfl
theorem mw_878 : Cond.methodLink RL 69 yX11_term ∈ xWS := xw_mem (q := 3044) rfl rfl
theorem mw_879 : Cond.selects RX11 yX11_term yX11_term ∈ xWS := xw_mem (q := 3046) rfl rfl
theorem mw_880 : Cond.instanceMethod yX12_term ∈ xWS := xw_mem (q := 5099) rfl rfl
theorem mw_881 : Cond.methodLink RL 72 yX12_term ∈ xWS := xw_mem (q := 5098) rfl rfl
theorem mw_882 : Cond.selects RX12 yX12_term yX12_term ∈ xWS := xw_mem (q := 5100) rfl rfl
theorem mw_883 : Cond.instanceMethod yX11_step ∈ xWS := xw_mem (q := 3057) rfl rfl
theorem mw_884 : Cond.methodLink RL 73 yX11_step ∈ xWS := xw_mem (q := 3056) rfl rfl
theorem mw_885 : Cond.selects RX11 yX11_step yX11_step ∈ xWS := xw_mem (q := 3058) rfl rfl
theorem mw_886 : Cond.instanceMethod yX12_step ∈ xWS := xw_mem (q := 5103) rfl rfl
theorem mw_887 : Cond.methodLink RL 76 yX12_step ∈ xWS := xw_mem (q := 5102) rfl rfl
theorem mw_888 : Cond.selects RX12 yX12_step yX12_step ∈ xWS := xw_mem (q := 5104) rfl rfl
theorem mw_889 : Cond.instanceMethod yX11_deed ∈ xWS := xw_mem (q := 3082) rfl rfl
theorem mw_890 : Cond.methodLink RL 77 yX11_deed ∈ xWS := xw_mem (q := 3081) rfl rfl
theorem mw_891 : Cond.selects RX11 yX11_deed yX11_deed ∈ xWS := xw_mem (q := 3083) rfl rfl
theorem mw_892 : Cond.instanceMethod yX12_deed ∈ xWS := xw_mem (q := 5111) rfl rfl
theorem mw_893 : Cond.methodLink RL 80 yX12_deed ∈ xWS := xw_mem (q := 5110) rfl rfl
theorem mw_894 : Cond.selects RX12 yX12_deed yX12_deed ∈ xWS := xw_mem (q := 5112) rfl rfl
theorem mw_895 : Cond.instanceMethod yX11_broken ∈ xWS := xw_mem (q := 3087) rfl rfl
theorem mw_896 : Cond.methodLink RL 81 yX11_broken ∈ xWS := xw_mem (q := 3086) rfl rfl
theorem mw_897 : Cond.selects RX11 yX11_broken yX11_broken ∈ xWS := xw_mem (q := 3088) rfl rfl
theorem mw_898 : Cond.instanceMethod yX12_broken ∈ xWS := xw_mem (q := 5115) rfl rfl
theorem mw_899 : Cond.methodLink RL 85 yX12_broken ∈ xWS := xw_mem (q := 5114) rfl rfl
theorem mw_900 : Cond.selects RX12 yX12_broken yX12_broken ∈ xWS := xw_mem (q := 5116) rfl rfl
theorem mw_901 : Cond.instanceMethod yX11_undo ∈ xWS := xw_mem (q := 3099) rfl rfl
theorem mw_902 : Cond.methodLink RL 86 yX11_undo ∈ xWS := xw_mem (q := 3098) rfl rfl
theorem mw_903 : Cond.selects RX11 yX11_undo yX11_undo ∈ xWS := xw_mem (q := 3100) rfl rfl
theorem mw_904 : Cond.instanceMethod yX12_undo ∈ xWS := xw_mem (q := 5123) rfl rfl
theorem mw_905 : Cond.methodLink RL 89 yX12_undo ∈ xWS := xw_mem (q := 5122) rfl rfl
theorem mw_906 : Cond.selects RX12 yX12_undo yX12_undo ∈ xWS := xw_mem (q := 5124) rfl rfl
theorem mw_907 : Cond.instanceMethod yX11_keep ∈ xWS := xw_mem (q := 3103) rfl rfl
theorem mw_908 : Cond.methodLink RL 90 yX11_keep ∈ xWS := xw_mem (q := 3102) rfl rfl
theorem mw_909 : Cond.selects RX11 yX11_keep yX11_keep ∈ xWS := xw_mem (q := 3104) rfl rfl
theorem mw_910 : Cond.instanceMethod yX12_keep ∈ xWS := xw_mem (q := 5127) rfl rfl
theorem mw_911 : Cond.methodLink RL 93 yX12_keep ∈ xWS := xw_mem (q := 5126) rfl rfl
theorem mw_912 : Cond.selects RX12 yX12_keep yX12_keep ∈ xWS := xw_mem (q := 5128) rfl rfl
theorem mw_913 : Cond.instanceMethod yX11_on ∈ xWS := xw_mem (q := 3115) rfl rfl
theorem mw_914 : Cond.methodLink RL 94 yX11_on ∈ xWS := xw_mem (q := 3114) rfl rfl
theorem mw_915 : Cond.selects RX11 yX11_on yX11_on ∈ xWS := xw_mem (q := 3116) rfl rfl
theorem mw_916 : Cond.instanceMethod yX12_on ∈ xWS := xw_mem (q := 5131) rfl rfl
theorem mw_917 : Cond.methodLink RL 97 yX12_on ∈ xWS := xw_mem (q := 5130) rfl rfl
theorem mw_918 : Cond.selects RX12 yX12_on yX12_on ∈ xWS := xw_mem (q := 5132) rfl rfl
theorem mw_919 : Cond.instanceMethod yX11_show ∈ xWS := xw_mem (q := 3123) rfl rfl
theorem mw_920 : Cond.methodLink RL 98 yX11_show ∈ xWS := xw_mem (q := 3122) rfl rfl
theorem mw_921 : Cond.selects RX11 yX11_show yX11_show ∈ xWS := xw_mem (q := 3124) rfl rfl
theorem mw_922 : Cond.instanceMethod yX12_show ∈ xWS := xw_mem (q := 5135) rfl rfl
theorem mw_923 : Cond.methodLink RL 101 yX12_show ∈ xWS := xw_mem (q := 5134) rfl rfl
theorem mw_924 : Cond.selects RX12 yX12_show yX12_show ∈ xWS := xw_mem (q := 5136) rfl rfl
theorem mw_925 : Cond.instanceMethod yX11_breaks ∈ xWS := xw_mem (q := 3136) rfl rfl
theorem mw_926 : Cond.methodLink RL 102 yX11_breaks ∈ xWS := xw_mem (q := 3135) rfl rfl
theorem mw_927 : Cond.selects RX11 yX11_breaks yX11_breaks ∈ xWS := xw_mem (q := 3137) rfl rfl
theorem mw_928 : Cond.instanceMethod yX12_breaks ∈ xWS := xw_mem (q := 5147) rfl rfl
theorem mw_929 : Cond.methodLink RL 105 yX12_breaks ∈ xWS := xw_mem (q := 5146) rfl rfl
theorem mw_930 : Cond.selects RX12 yX12_breaks yX12_breaks ∈ xWS := xw_mem (q := 5148) rfl rfl
theorem mw_931 : Cond.instanceMethod yX11_alike ∈ xWS := xw_mem (q := 3145) rfl rfl
theorem mw_932 : Cond.methodLink RL 106 yX11_alike ∈ xWS := xw_mem (q := 3144) rfl rfl
theorem mw_933 : Cond.selects RX11 yX11_alike yX11_alike ∈ xWS := xw_mem (q := 3146) rfl rfl
theorem mw_934 : Cond.instanceMethod yX12_alike ∈ xWS := xw_mem (q := 5155) rfl rfl
theorem mw_935 : Cond.methodLink RL 109 yX12_alike ∈ xWS := xw_mem (q := 5154) rfl rfl
theorem mw_936 : Cond.selects RX12 yX12_alike yX12_alike ∈ xWS := xw_mem (q := 5156) rfl rfl
theorem mw_937 : Cond.instanceMethod yX11_fit ∈ xWS := xw_mem (q := 3149) rfl rfl
theorem mw_938 : Cond.methodLink RL 110 yX11_fit ∈ xWS := xw_mem (q := 3148) rfl rfl
theorem mw_939 : Cond.selects RX11 yX11_fit yX11_fit ∈ xWS := xw_mem (q := 3150) rfl rfl
theorem mw_940 : Cond.instanceMethod yX12_fit ∈ xWS := xw_mem (q := 5159) rfl rfl
theorem mw_941 : Cond.methodLink RL 113 yX12_fit ∈ xWS := xw_mem (q := 5158) rfl rfl
theorem mw_942 : Cond.selects RX12 yX12_fit yX12_fit ∈ xWS := xw_mem (q := 5160) rfl rfl
theorem mw_943 : Cond.instanceMethod yX11_ways ∈ xWS := xw_mem (q := 3156) rfl rfl
theorem mw_944 : Cond.methodLink RL 114 yX11_ways ∈ xWS := xw_mem (q := 3155) rfl rfl
theorem mw_945 : Cond.selects RX11 yX11_ways yX11_ways ∈ xWS := xw_mem (q := 3157) rfl rfl
theorem mw_946 : Cond.instanceMethod yX12_ways ∈ xWS := xw_mem (q := 5167) rfl rfl
theorem mw_947 : Cond.methodLink RL 117 yX12_ways ∈ xWS := xw_mem (q := 5166) rfl rfl
theorem mw_948 : Cond.selects RX12 yX12_ways yX12_ways ∈ xWS := xw_mem (q := 5168) rfl rfl
theorem mw_949 : Cond.instanceMethod yX11_first ∈ xWS := xw_mem (q := 3173) rfl rfl
theorem mw_950 : Cond.methodLink RL 118 yX11_first ∈ xWS := xw_mem (q := 3172) rfl rfl
theorem mw_951 : Cond.selects RX11 yX11_first yX11_first ∈ xWS := xw_mem (q := 3174) rfl rfl
theorem mw_952 : Cond.instanceMethod yX12_first ∈ xWS := xw_mem (q := 5186) rfl rfl
theorem mw_953 : Cond.methodLink RL 121 yX12_first ∈ xWS := xw_mem (q := 5185) rfl rfl
theorem mw_954 : Cond.selects RX12 yX12_first yX12_first ∈ xWS := xw_mem (q := 5187) rfl rfl
theorem mw_955 : Cond.instanceMethod yX11_can ∈ xWS := xw_mem (q := 3180) rfl rfl
theorem mw_956 : Cond.methodLink RL 122 yX11_can ∈ xWS := xw_mem (q := 3179) rfl rfl
theorem mw_957 : Cond.selects RX11 yX11_can yX11_can ∈ xWS := xw_mem (q := 3181) rfl rfl
theorem mw_958 : Cond.instanceMethod yX12_can ∈ xWS := xw_mem (q := 5190) rfl rfl
theorem mw_959 : Cond.methodLink RL 125 yX12_can ∈ xWS := xw_mem (q := 5189) rfl rfl
theorem mw_960 : Cond.selects RX12 yX12_can yX12_can ∈ xWS := xw_mem (q := 5191) rfl rfl
theorem mw_961 : Cond.instanceMethod yX11_laws ∈ xWS := xw_mem (q := 3184) rfl rfl
theorem mw_962 : Cond.methodLink RL 126 yX11_laws ∈ xWS := xw_mem (q := 3183) rfl rfl
theorem mw_963 : Cond.selects RX11 yX11_laws yX11_laws ∈ xWS := xw_mem (q := 3185) rfl rfl
theorem mw_964 : Cond.instanceMethod yX12_laws ∈ xWS := xw_mem (q := 5194) rfl rfl
theorem mw_965 : Cond.methodLink RL 129 yX12_laws ∈ xWS := xw_mem (q := 5193) rfl rfl
theorem mw_966 : Cond.selects RX12 yX12_laws yX12_laws ∈ xWS := xw_mem (q := 5195) rfl rfl
theorem mw_967 : Cond.instanceMethod yX11_next ∈ xWS := xw_mem (q := 3196) rfl rfl
theorem mw_968 : Cond.methodLink RL 130 yX11_next ∈ xWS := xw_mem (q := 3195) rfl rfl
theorem mw_969 : Cond.selects RX11 yX11_next yX11_next ∈ xWS := xw_mem (q := 3197) rfl rfl
theorem mw_970 : Cond.instanceMethod yX12_next ∈ xWS := xw_mem (q := 5202) rfl rfl
theorem mw_971 : Cond.methodLink RL 133 yX12_next ∈ xWS := xw_mem (q := 5201) rfl rfl
theorem mw_972 : Cond.selects RX12 yX12_next yX12_next ∈ xWS := xw_mem (q := 5203) rfl rfl
theorem mw_973 : Cond.instanceMethod yX11_he ∈ xWS := xw_mem (q := 3205) rfl rfl
theorem mw_974 : Cond.methodLink RL 134 yX11_he ∈ xWS := xw_mem (q := 3204) rfl rfl
theorem mw_975 : Cond.selects RX11 yX11_he yX11_he ∈ xWS := xw_mem (q := 3206) rfl rfl
theorem mw_976 : Cond.instanceMethod yX12_he ∈ xWS := xw_mem (q := 5212) rfl rfl
theorem mw_977 : Cond.methodLink RL 137 yX12_he ∈ xWS := xw_mem (q := 5211) rfl rfl
theorem mw_978 : Cond.selects RX12 yX12_he yX12_he ∈ xWS := xw_mem (q := 5213) rfl rfl
theorem mw_979 : Cond.instanceMethod yX11_keeps ∈ xWS := xw_mem (q := 3209) rfl rfl
theorem mw_980 : Cond.methodLink RL 138 yX11_keeps ∈ xWS := xw_mem (q := 3208) rfl rfl
theorem mw_981 : Cond.selects RX11 yX11_keeps yX11_keeps ∈ xWS := xw_mem (q := 3210) rfl rfl
theorem mw_982 : Cond.instanceMethod yX12_keeps ∈ xWS := xw_mem (q := 5216) rfl rfl
theorem mw_983 : Cond.methodLink RL 141 yX12_keeps ∈ xWS := xw_mem (q := 5215) rfl rfl
theorem mw_984 : Cond.selects RX12 yX12_keeps yX12_keeps ∈ xWS := xw_mem (q := 5217) rfl rfl
theorem mw_985 : Cond.instanceMethod yX11_still ∈ xWS := xw_mem (q := 4006) rfl rfl
theorem mw_986 : Cond.methodLink RL 142 yX11_still ∈ xWS := xw_mem (q := 4005) rfl rfl
theorem mw_987 : Cond.selects RX11 yX11_still yX11_still ∈ xWS := xw_mem (q := 4007) rfl rfl
theorem mw_988 : Cond.instanceMethod yX12_still ∈ xWS := xw_mem (q := 5224) rfl rfl
theorem mw_989 : Cond.methodLink RL 145 yX12_still ∈ xWS := xw_mem (q := 5223) rfl rfl
theorem mw_990 : Cond.selects RX12 yX12_still yX12_still ∈ xWS := xw_mem (q := 5225) rfl rfl
theorem mw_991 : Cond.instanceMethod yX11_game ∈ xWS := xw_mem (q := 4014) rfl rfl
theorem mw_992 : Cond.methodLink RL 146 yX11_game ∈ xWS := xw_mem (q := 4013) rfl rfl
theorem mw_993 : Cond.selects RX11 yX11_game yX11_game ∈ xWS := xw_mem (q := 4015) rfl rfl
theorem mw_994 : Cond.instanceMethod yX12_game ∈ xWS := xw_mem (q := 5228) rfl rfl
theorem mw_995 : Cond.methodLink RL 149 yX12_game ∈ xWS := xw_mem (q := 5227) rfl rfl
theorem mw_996 : Cond.selects RX12 yX12_game yX12_game ∈ xWS := xw_mem (q := 5229) rfl rfl
theorem mw_997 : Cond.instanceMethod yX11_picks ∈ xWS := xw_mem (q := 4026) rfl rfl
theorem mw_998 : Cond.methodLink RL 150 yX11_picks ∈ xWS := xw_mem (q := 4025) rfl rfl
theorem mw_999 : Cond.selects RX11 yX11_picks yX11_picks ∈ xWS := xw_mem (q := 4027) rfl rfl
theorem mw_1000 : Cond.instanceMethod yX12_picks ∈ xWS := xw_mem (q := 6000) rfl rfl
theorem mw_1001 : Cond.methodLink RL 153 yX12_picks ∈ xWS := xw_mem (q := 5239) rfl rfl
theorem mw_1002 : Cond.selects RX12 yX12_picks yX12_picks ∈ xWS := xw_mem (q := 6001) rfl rfl
theorem mw_1003 : Cond.instanceMethod yX11_odds ∈ xWS := xw_mem (q := 4030) rfl rfl
theorem mw_1004 : Cond.methodLink RL 154 yX11_odds ∈ xWS := xw_mem (q := 4029) rfl rfl
theorem mw_1005 : Cond.selects RX11 yX11_odds yX11_odds ∈ xWS := xw_mem (q := 4031) rfl rfl
theorem mw_1006 : Cond.instanceMethod yX12_odds ∈ xWS := xw_mem (q := 6004) rfl rfl
theorem mw_1007 : Cond.methodLink RL 157 yX12_odds ∈ xWS := xw_mem (q := 6003) rfl rfl
theorem mw_1008 : Cond.selects RX12 yX12_odds yX12_odds ∈ xWS := xw_mem (q := 6005) rfl rfl
theorem mw_1009 : Cond.instanceMethod yX11_mid ∈ xWS := xw_mem (q := 4039) rfl rfl
theorem mw_1010 : Cond.methodLink RL 158 yX11_mid ∈ xWS := xw_mem (q := 4038) rfl rfl
theorem mw_1011 : Cond.selects RX11 yX11_mid yX11_mid ∈ xWS := xw_mem (q := 4040) rfl rfl
theorem mw_1012 : Cond.instanceMethod yX12_mid ∈ xWS := xw_mem (q := 6009) rfl rfl
theorem mw_1013 : Cond.methodLink RL 161 yX12_mid ∈ xWS := xw_mem (q := 6008) rfl rfl
theorem mw_1014 : Cond.selects RX12 yX12_mid yX12_mid ∈ xWS := xw_mem (q := 6010) rfl rfl
theorem mw_1015 : Cond.instanceMethod yX11_lots ∈ xWS := xw_mem (q := 4043) rfl rfl
theorem mw_1016 : Cond.methodLink RL 162 yX11_lots ∈ xWS := xw_mem (q := 4042) rfl rfl
theorem mw_1017 : Cond.selects RX11 yX11_lots yX11_lots ∈ xWS := xw_mem (q := 4044) rfl rfl
theorem mw_1018 : Cond.instanceMethod yX12_lots ∈ xWS := xw_mem (q := 6013) rfl rfl
theorem mw_1019 : Cond.methodLink RL 165 yX12_lots ∈ xWS := xw_mem (q := 6012) rfl rfl
theorem mw_1020 : Cond.selects RX12 yX12_lots yX12_lots ∈ xWS := xw_mem (q := 6014) rfl rfl
theorem mw_1021 : Cond.instanceMethod yX11_asked ∈ xWS := xw_mem (q := 4051) rfl rfl
theorem mw_1022 : Cond.methodLink RL 166 yX11_asked ∈ xWS := xw_mem (q := 4050) rfl rfl
theorem mw_1023 : Cond.selects RX11 yX11_asked yX11_asked ∈ xWS := xw_mem (q := 4052) rfl rfl
theorem mw_1024 : Cond.instanceMethod yX12_asked ∈ xWS := xw_mem (q := 6022) rfl rfl
theorem mw_1025 : Cond.methodLink RL 169 yX12_asked ∈ xWS := xw_mem (q := 6021) rfl rfl
theorem mw_1026 : Cond.selects RX12 yX12_asked yX12_asked ∈ xWS := xw_mem (q := 6023) rfl rfl
theorem mw_1027 : Cond.instanceMethod yX11_upper ∈ xWS := xw_mem (q := 4055) rfl rfl
theorem mw_1028 : Cond.methodLink RL 170 yX11_upper ∈ xWS := xw_mem (q := 4054) rfl rfl
theorem mw_1029 : Cond.selects RX11 yX11_upper yX11_upper ∈ xWS := xw_mem (q := 4056) rfl rfl
theorem mw_1030 : Cond.instanceMethod yX12_upper ∈ xWS := xw_mem (q := 6026) rfl rfl
theorem mw_1031 : Cond.methodLink RL 174 yX12_upper ∈ xWS := xw_mem (q := 6025) rfl rfl
theorem mw_1032 : Cond.selects RX12 yX12_upper yX12_upper ∈ xWS := xw_mem (q := 6027) rfl rfl
theorem mw_1033 : Cond.instanceMethod yX11_lower ∈ xWS := xw_mem (q := 4059) rfl rfl
theorem mw_1034 : Cond.methodLink RL 175 yX11_lower ∈ xWS := xw_mem (q := 4058) rfl rfl
theorem mw_1035 : Cond.selects RX11 yX11_lower yX11_lower ∈ xWS := xw_mem (q := 4060) rfl rfl
theorem mw_1036 : Cond.instanceMethod yX12_lower ∈ xWS := xw_mem (q := 6030) rfl rfl
theorem mw_1037 : Cond.methodLink RL 178 yX12_lower ∈ xWS := xw_mem (q := 6029) rfl rfl
theorem mw_1038 : Cond.selects RX12 yX12_lower yX12_lower ∈ xWS := xw_mem (q := 6031) rfl rfl
theorem mw_1039 : Cond.methodLink RL 179 yX11_count ∈ xWS := xw_mem (q := 4062) rfl rfl
theorem mw_1040 : Cond.instanceMethod yX12_count ∈ xWS := xw_mem (q := 6034) rfl rfl
theorem mw_1041 : Cond.methodLink RL 182 yX12_count ∈ xWS := xw_mem (q := 6033) rfl rfl
theorem mw_1042 : Cond.selects RX12 yX12_count yX12_count ∈ xWS := xw_mem (q := 6035) rfl rfl
theorem mw_1043 : Cond.instanceMethod yX11_finding ∈ xWS := xw_mem (q := 4078) rfl rfl
theorem mw_1044 : Cond.methodLink RL 183 yX11_finding ∈ xWS := xw_mem (q := 4077) rfl rfl
theorem mw_1045 : Cond.selects RX11 yX11_finding yX11_finding ∈ xWS := xw_mem (q := 4079) rfl rfl
theorem mw_1046 : Cond.instanceMethod yX12_finding ∈ xWS := xw_mem (q := 6049) rfl rfl
theorem mw_1047 : Cond.methodLink RL 186 yX12_finding ∈ xWS := xw_mem (q := 6048) rfl rfl
theorem mw_1048 : Cond.selects RX12 yX12_finding yX12_finding ∈ xWS := xw_mem (q := 6050) rfl rfl
theorem mw_1049 : Cond.instanceMethod yX11_findings ∈ xWS := xw_mem (q := 4082) rfl rfl
theorem mw_1050 : Cond.methodLink RL 187 yX11_findings ∈ xWS := xw_mem (q := 4081) rfl rfl
theorem mw_1051 : Cond.selects RX11 yX11_findings yX11_findings ∈ xWS := xw_mem (q := 4083) rfl rfl
theorem mw_1052 : Cond.instanceMethod yX12_findings ∈ xWS := xw_mem (q := 6053) rfl rfl
theorem mw_1053 : Cond.methodLink RL 190 yX12_findings ∈ xWS := xw_mem (q := 6052) rfl rfl
theorem mw_1054 : Cond.selects RX12 yX12_findings yX12_findings ∈ xWS := xw_mem (q := 6054) rfl rfl
theorem mw_1055 : Cond.instanceMethod yX11_digest ∈ xWS := xw_mem (q := 4086) rfl rfl
theorem mw_1056 : Cond.methodLink RL 191 yX11_digest ∈ xWS := xw_mem (q := 4085) rfl rfl
theorem mw_1057 : Cond.selects RX11 yX11_digest yX11_digest ∈ xWS := xw_mem (q := 4087) rfl rfl
theorem mw_1058 : Cond.instanceMethod yX12_digest ∈ xWS := xw_mem (q := 6057) rfl rfl
theorem mw_1059 : Cond.methodLink RL 194 yX12_digest ∈ xWS := xw_mem (q := 6056) rfl rfl
theorem mw_1060 : Cond.selects RX12 yX12_digest yX12_digest ∈ xWS := xw_mem (q := 6058) rfl rfl
theorem mw_1061 : Cond.classLink RX11 9 RX0 ∈ xWS := xw_mem (q := 1025) rfl rfl
theorem mw_1062 : Cond.classLink RX11 18 RX7 ∈ xWS := xw_mem (q := 1027) rfl rfl
theorem mw_1063 : Cond.classLink RX11 24 RX2 ∈ xWS := xw_mem (q := 1029) rfl rfl
theorem mw_1064 : Cond.classLink RL 7 RX11 ∈ xWS := xw_mem (q := 1017) rfl rfl
theorem mw_1065 : Cond.instantiable RX11 16 ∈ xWS := xw_mem (q := 1018) rfl rfl
theorem mw_1066 : Cond.classLink RL 10 RX12 ∈ xWS := xw_mem (q := 4095) rfl rfl
theorem mw_1067 : Cond.instantiable RX12 32 ∈ xWS := xw_mem (q := 4096) rfl rfl
theorem mw_1068 : Cond.instantiable RX0 2 ∈ xWS := xw_mem (q := 1069) rfl rfl
theorem mw_1069 : Cond.instantiable RX7 2 ∈ xWS := xw_mem (q := 1161) rfl rfl
theorem mw_1070 : Cond.instantiable RX2 2 ∈ xWS := xw_mem (q := 1030) rfl rfl
theorem mw_1071 : Cond.classLink RX11 35 RX8 ∈ xWS := xw_mem (q := 1047) rfl rfl
theorem mw_1072 : Cond.instantiable RX8 5 ∈ xWS := xw_mem (q := 1048) rfl rfl
theorem mw_1073 : Cond.classLink RX11 59 RX1 ∈ xWS := xw_mem (q := 1084) rfl rfl
theorem mw_1074 : Cond.instantiable RX1 5 ∈ xWS := xw_mem (q := 1085) rfl rfl
theorem mw_1075 : Cond.classLink RX11 178 RX6 ∈ xWS := xw_mem (q := 1143) rfl rfl
theorem mw_1076 : Cond.instantiable RX6 2 ∈ xWS := xw_mem (q := 1144) rfl rfl
theorem mw_1077 : Cond.classLink RX11 310 RX5 ∈ xWS := xw_mem (q := 1109) rfl rfl
theorem mw_1078 : Cond.instantiable RX5 2 ∈ xWS := xw_mem (q := 1110) rfl rfl
theorem mw_1079 : Cond.classLink RX11 314 RX9 ∈ xWS := xw_mem (q := 1125) rfl rfl
theorem mw_1080 : Cond.instantiable RX9 2 ∈ xWS := xw_mem (q := 1126) rfl rfl
theorem mw_1081 : Cond.classLink RX11 317 RX10 ∈ xWS := xw_mem (q := 1134) rfl rfl
theorem mw_1082 : Cond.instantiable RX10 2 ∈ xWS := xw_mem (q := 1135) rfl rfl
theorem mw_1083 : Cond.classLink RX11 321 RX4 ∈ xWS := xw_mem (q := 1152) rfl rfl
theorem mw_1084 : Cond.instantiable RX4 2 ∈ xWS := xw_mem (q := 1153) rfl rfl
theorem mw_1085 : Cond.constant RJ6 265 (1431655765) ∈ xWS := xw_mem (q := 3033) rfl rfl
theorem mw_1086 : Cond.constant RJ6 266 (858993459) ∈ xWS := xw_mem (q := 3034) rfl rfl
theorem mw_1087 : Cond.constant RJ6 267 (252645135) ∈ xWS := xw_mem (q := 3035) rfl rfl
theorem mw_1088 : Cond.constantLong RX11 279 (12) ∈ xWS := xw_mem (q := 4037) rfl rfl
theorem mw_1089 : Cond.constantLong RX12 237 (12) ∈ xWS := xw_mem (q := 6007) rfl rfl
theorem mw_1090 : Cond.constantLong RX11 281 (2147483647) ∈ xWS := xw_mem (q := 4046) rfl rfl
theorem mw_1091 : Cond.constantLong RX11 283 (48271) ∈ xWS := xw_mem (q := 4047) rfl rfl
theorem mw_1092 : Cond.constantLong RX11 285 (8) ∈ xWS := xw_mem (q := 4048) rfl rfl
theorem mw_1093 : Cond.constantLong RX11 287 (6) ∈ xWS := xw_mem (q := 4049) rfl rfl
theorem mw_1094 : Cond.constant RX12 239 (2147483646) ∈ xWS := xw_mem (q := 6016) rfl rfl
theorem mw_1095 : Cond.constantLong RX12 240 (48271) ∈ xWS := xw_mem (q := 6017) rfl rfl
theorem mw_1096 : Cond.constantLong RX12 242 (2147483647) ∈ xWS := xw_mem (q := 6018) rfl rfl
theorem mw_1097 : Cond.constantLong RX12 244 (8) ∈ xWS := xw_mem (q := 6019) rfl rfl
theorem mw_1098 : Cond.constantLong RX12 246 (6) ∈ xWS := xw_mem (q := 6020) rfl rfl
theorem mw_1099 : Cond.constantLong RX11 299 (17) ∈ xWS := xw_mem (q := 4089) rfl rfl
theorem mw_1100 : Cond.constantLong RX11 301 (31) ∈ xWS := xw_mem (q := 4090) rfl rfl
theorem mw_1101 : Cond.constantLong RX12 263 (17) ∈ xWS := xw_mem (q := 6060) rfl rfl
theorem mw_1102 : Cond.constantLong RX12 258 (31) ∈ xWS := xw_mem (q := 6065) rfl rfl
theorem ml_0 : ∀ w ∈ u_ws RX0 TX0 2, w ∈ xWS := List.forall_mem_cons.mpr ⟨xw_mem (q := 1079) rfl rfl, List.forall_mem_cons.mpr ⟨xw_mem (q := 1081) rfl rfl, fun _ h => absurd h List.not_mem_nil⟩⟩
theorem ml_1 : ∀ w ∈ u_ws RX1 TX1 5, w ∈ xWS := List.forall_mem_cons.mpr ⟨xw_mem (q := 1095) rfl rfl, List.forall_mem_cons.mpr ⟨xw_mem (q := 1097) rfl rfl, List.forall_mem_cons.mpr ⟨xw_mem (q := 1099) rfl rfl, List.forall_mem_cons.mpr ⟨xw_mem (q := 1101) rfl rfl, List.forall_mem_cons.mpr ⟨xw_mem (q := 1103) rfl rfl, fun _ h => absurd h List.not_mem_nil⟩⟩⟩⟩⟩
theorem ml_2 : ∀ w ∈ u_ws RX2 TX2 2, w ∈ xWS := List.forall_mem_cons.mpr ⟨xw_mem (q := 1040) rfl rfl, List.forall_mem_cons.mpr ⟨xw_mem (q := 1042) rfl rfl, fun _ h => absurd h List.not_mem_nil⟩⟩
theorem ml_3 : ∀ w ∈ u_ws RX4 TX4 2, w ∈ xWS := List.forall_mem_cons.mpr ⟨xw_mem (q := 1158) rfl rfl, List.forall_mem_cons.mpr ⟨xw_mem (q := 1159) rfl rfl, fun _ h => absurd h List.not_mem_nil⟩⟩
theorem ml_4 : ∀ w ∈ u_ws RX5 TX5 2, w ∈ xWS := List.forall_mem_cons.mpr ⟨xw_mem (q := 1120) rfl rfl, List.forall_mem_cons.mpr ⟨xw_mem (q := 1122) rfl rfl, fun _ h => absurd h List.not_mem_nil⟩⟩
theorem ml_5 : ∀ w ∈ u_ws RX6 TX6 2, w ∈ xWS := List.forall_mem_cons.mpr ⟨xw_mem (q := 1149) rfl rfl, List.forall_mem_cons.mpr ⟨xw_mem (q := 1150) rfl rfl, fun _ h => absurd h List.not_mem_nil⟩⟩
theorem ml_6 : ∀ w ∈ u_ws RX7 TX7 2, w ∈ xWS := List.forall_mem_cons.mpr ⟨xw_mem (q := 1163) rfl rfl, List.forall_mem_cons.mpr ⟨xw_mem (q := 1164) rfl rfl, fun _ h => absurd h List.not_mem_nil⟩⟩
theorem ml_7 : ∀ w ∈ u_ws RX8 TX8 5, w ∈ xWS := List.forall_mem_cons.mpr ⟨xw_mem (q := 1058) rfl rfl, List.forall_mem_cons.mpr ⟨xw_mem (q := 1060) rfl rfl, List.forall_mem_cons.mpr ⟨xw_mem (q := 1062) rfl rfl, List.forall_mem_cons.mpr ⟨xw_mem (q := 1064) rfl rfl, List.forall_mem_cons.mpr ⟨xw_mem (q := 1066) rfl rfl, fun _ h => absurd h List.not_mem_nil⟩⟩⟩⟩⟩
theorem ml_8 : ∀ w ∈ u_ws RX9 TX9 2, w ∈ xWS := List.forall_mem_cons.mpr ⟨xw_mem (q := 1131) rfl rfl, List.forall_mem_cons.mpr ⟨xw_mem (q := 1132) rfl rfl, fun _ h => absurd h List.not_mem_nil⟩⟩
theorem ml_9 : ∀ w ∈ u_ws RX10 TX10 2, w ∈ xWS := List.forall_mem_cons.mpr ⟨xw_mem (q := 1140) rfl rfl, List.forall_mem_cons.mpr ⟨xw_mem (q := 1141) rfl rfl, fun _ h => absurd h List.not_mem_nil⟩⟩
theorem ml_10 : ∀ w ∈ u_ws RX11 TX11 16, w ∈ xWS := List.forall_mem_cons.mpr ⟨xw_mem (q := 1186) rfl rfl, List.forall_mem_cons.mpr ⟨xw_mem (q := 1188) rfl rfl, List.forall_mem_cons.mpr ⟨xw_mem (q := 1190) rfl rfl, List.forall_mem_cons.mpr ⟨xw_mem (q := 1192) rfl rfl, List.forall_mem_cons.mpr ⟨xw_mem (q := 1194) rfl rfl, List.forall_mem_cons.mpr ⟨xw_mem (q := 1196) rfl rfl, List.forall_mem_cons.mpr ⟨xw_mem (q := 1198) rfl rfl, List.forall_mem_cons.mpr ⟨xw_mem (q := 1200) rfl rfl, List.forall_mem_cons.mpr ⟨xw_mem (q := 1202) rfl rfl, List.forall_mem_cons.mpr ⟨xw_mem (q := 1204) rfl rfl, List.forall_mem_cons.mpr ⟨xw_mem (q := 1206) rfl rfl, List.forall_mem_cons.mpr ⟨xw_mem (q := 1208) rfl rfl, List.forall_mem_cons.mpr ⟨xw_mem (q := 1210) rfl rfl, List.forall_mem_cons.mpr ⟨xw_mem (q := 1212) rfl rfl, List.forall_mem_cons.mpr ⟨xw_mem (q := 1214) rfl rfl, List.forall_mem_cons.mpr ⟨xw_mem (q := 1216) rfl rfl, fun _ h => absurd h List.not_mem_nil⟩⟩⟩⟩⟩⟩⟩⟩⟩⟩⟩⟩⟩⟩⟩⟩
theorem ml_11 : ∀ w ∈ u_ws RX12 TX12 32, w ∈ xWS := List.forall_mem_cons.mpr ⟨xw_mem (q := 4133) rfl rfl, List.forall_mem_cons.mpr ⟨xw_mem (q := 4135) rfl rfl, List.forall_mem_cons.mpr ⟨xw_mem (q := 4137) rfl rfl, List.forall_mem_cons.mpr ⟨xw_mem (q := 4139) rfl rfl, List.forall_mem_cons.mpr ⟨xw_mem (q := 4141) rfl rfl, List.forall_mem_cons.mpr ⟨xw_mem (q := 4143) rfl rfl, List.forall_mem_cons.mpr ⟨xw_mem (q := 4145) rfl rfl, List.forall_mem_cons.mpr ⟨xw_mem (q := 4147) rfl rfl, List.forall_mem_cons.mpr ⟨xw_mem (q := 4149) rfl rfl, List.forall_mem_cons.mpr ⟨xw_mem (q := 4151) rfl rfl, List.forall_mem_cons.mpr ⟨xw_mem (q := 4153) rfl rfl, List.forall_mem_cons.mpr ⟨xw_mem (q := 4155) rfl rfl, List.forall_mem_cons.mpr ⟨xw_mem (q := 4157) rfl rfl, List.forall_mem_cons.mpr ⟨xw_mem (q := 4159) rfl rfl, List.forall_mem_cons.mpr ⟨xw_mem (q := 4161) rfl rfl, List.forall_mem_cons.mpr ⟨xw_mem (q := 4163) rfl rfl, List.forall_mem_cons.mpr ⟨xw_mem (q := 4165) rfl rfl, List.forall_mem_cons.mpr ⟨xw_mem (q := 4167) rfl rfl, List.forall_mem_cons.mpr ⟨xw_mem (q := 4169) rfl rfl, List.forall_mem_cons.mpr ⟨xw_mem (q := 4171) rfl rfl, List.forall_mem_cons.mpr ⟨xw_mem (q := 4173) rfl rfl, List.forall_mem_cons.mpr ⟨xw_mem (q := 4175) rfl rfl, List.forall_mem_cons.mpr ⟨xw_mem (q := 4177) rfl rfl, List.forall_mem_cons.mpr ⟨xw_mem (q := 4179) rfl rfl, List.forall_mem_cons.mpr ⟨xw_mem (q := 4181) rfl rfl, List.forall_mem_cons.mpr ⟨xw_mem (q := 4183) rfl rfl, List.forall_mem_cons.mpr ⟨xw_mem (q := 4185) rfl rfl, List.forall_mem_cons.mpr ⟨xw_mem (q := 4187) rfl rfl, List.forall_mem_cons.mpr ⟨xw_mem (q := 4189) rfl rfl, List.forall_mem_cons.mpr ⟨xw_mem (q := 4191) rfl rfl, List.forall_mem_cons.mpr ⟨xw_mem (q := 4193) rfl rfl, List.forall_mem_cons.mpr ⟨xw_mem (q := 4195) rfl rfl, fun _ h => absurd h List.not_mem_nil⟩⟩⟩⟩⟩⟩⟩⟩⟩⟩⟩⟩⟩⟩⟩⟩⟩⟩⟩⟩⟩⟩⟩⟩⟩⟩⟩⟩⟩⟩⟩⟩
end
section
def RO (k : Nat) : String := match k with
  | 0 => RX0
  | 1 => RX1
  | 2 => RX2
  | 3 => RX3
  | 4 => RX4
  | 5 => RX5
  | 6 => RX6
  | 7 => RX7
  | 8 => RX8
  | 9 => RX9
  | 10 => RX10
  | 11 => RX11
  | 12 => RX12
  | 13 => RL
  | _ => RJ6
/-- a field: index, place, sort, final, the kinds of objects -/
abbrev xFE : Type := Nat × Nat × Nat × Bool × List Nat
/-- a method: its instructions, class, locals, sort of answer, <init>; name, bytes, answer, arguments -/
abbrev xME : Type := (xI × Nat × Nat × Nat × Bool) × (MethodName × ByteArray × Option FieldType × Nat)
/-- a call: index, form (0 static, 1 <init>, 2 <init> of a nest mate, 3 virtual, 4 Object, 5 max, 6 min), method, receivers -/
abbrev xCE : Type := Nat × Nat × Nat × List (Nat × Nat)
def xFL_0 : List xFE := [(9, 1, 0, false, [0]), (21, 0, 2, true, [0])]
def xCL_0 : List xCE := [(3, 2, 37, []), (15, 5, 0, []), (25, 3, 1, [(0, 3)]), (29, 6, 0, []), (32, 3, 2, [(0, 4)]), (36, 8, 0, []), (42, 3, 2, [(0, 7)]), (46, 3, 4, [(0, 9)]), (50, 3, 1, [(0, 5)])]
def xNL_0 : List (Nat × Nat × List Value) := []
def xAL_0 : List (Nat × Nat) := []
def xKL_0 : List (Nat × Value) := []
def xFL_1 : List xFE := [(9, 0, 2, true, [1]), (15, 1, 2, true, [1]), (18, 2, 0, false, [1]), (22, 3, 0, false, [1]), (25, 4, 0, false, [1])]
def xCL_1 : List xCE := [(3, 4, 0, []), (28, 6, 0, []), (34, 0, 18, []), (38, 3, 5, [(1, 19)]), (42, 0, 17, []), (46, 3, 1, [(1, 21)]), (50, 3, 1, [(3, 39), (4, 42), (5, 45), (6, 51), (8, 73), (9, 51)]), (56, 3, 3, [(7, 60)]), (61, 3, 2, [(7, 64)]), (65, 0, 20, [])]
def xNL_1 : List (Nat × Nat × List Value) := []
def xAL_1 : List (Nat × Nat) := []
def xKL_1 : List (Nat × Value) := []
def xFL_2 : List xFE := [(11, 0, 2, true, [2]), (15, 1, 0, false, [2])]
def xCL_2 : List xCE := [(3, 2, 37, []), (19, 3, 3, [(2, 27)]), (23, 3, 3, [(2, 29)]), (26, 8, 0, []), (32, 3, 2, [(2, 26)])]
def xNL_2 : List (Nat × Nat × List Value) := []
def xAL_2 : List (Nat × Nat) := []
def xKL_2 : List (Nat × Value) := []
def xFL_3 : List xFE := []
def xCL_3 : List xCE := [(1, 4, 0, [])]
def xNL_3 : List (Nat × Nat × List Value) := []
def xAL_3 : List (Nat × Nat) := []
def xKL_3 : List (Nat × Value) := []
def xFL_4 : List xFE := []
def xCL_4 : List xCE := [(1, 1, 72, []), (7, 10, 53, [])]
def xNL_4 : List (Nat × Nat × List Value) := []
def xAL_4 : List (Nat × Nat) := []
def xKL_4 : List (Nat × Value) := []
def xFL_5 : List xFE := []
def xCL_5 : List xCE := [(3, 1, 47, []), (9, 3, 0, [(4, 49), (5, 49)]), (15, 9, 50, [])]
def xNL_5 : List (Nat × Nat × List Value) := []
def xAL_5 : List (Nat × Nat) := []
def xKL_5 : List (Nat × Value) := []
def xFL_6 : List xFE := []
def xCL_6 : List xCE := [(3, 1, 41, []), (9, 0, 46, []), (15, 9, 42, [])]
def xNL_6 : List (Nat × Nat × List Value) := []
def xAL_6 : List (Nat × Nat) := []
def xKL_6 : List (Nat × Value) := []
def xFL_7 : List xFE := [(9, 0, 0, true, [3, 4, 5, 6, 8, 9]), (15, 1, 0, true, [3, 4, 5, 6, 8, 9])]
def xCL_7 : List xCE := [(3, 4, 0, [])]
def xNL_7 : List (Nat × Nat × List Value) := []
def xAL_7 : List (Nat × Nat) := []
def xKL_7 : List (Nat × Value) := []
def xFL_8 : List xFE := [(9, 0, 2, true, [7]), (15, 1, 2, true, [7]), (18, 2, 0, false, [7]), (22, 3, 2, true, [7]), (25, 4, 0, false, [7])]
def xCL_8 : List xCE := [(3, 4, 0, []), (28, 7, 126, []), (32, 3, 1, [(3, 40), (4, 52), (5, 52), (6, 52), (8, 52), (9, 76)]), (37, 3, 1, [(7, 59)]), (41, 3, 1, [(3, 39), (4, 42), (5, 45), (6, 51), (8, 73), (9, 51)]), (44, 3, 1, [(0, 11), (2, 36)]), (49, 3, 3, [(7, 60)]), (53, 3, 2, [(7, 63)]), (57, 0, 70, []), (61, 3, 0, [(0, 2)]), (67, 3, 1, [(0, 5)]), (70, 0, 71, []), (74, 3, 2, [(7, 66)]), (77, 3, 2, [(7, 68)]), (80, 3, 2, [(7, 67)]), (83, 0, 69, []), (89, 3, 1, [(0, 3)])]
def xNL_8 : List (Nat × Nat × List Value) := []
def xAL_8 : List (Nat × Nat) := []
def xKL_8 : List (Nat × Value) := []
def xFL_9 : List xFE := []
def xCL_9 : List xCE := [(3, 1, 47, []), (9, 10, 53, []), (15, 9, 50, [])]
def xNL_9 : List (Nat × Nat × List Value) := []
def xAL_9 : List (Nat × Nat) := []
def xKL_9 : List (Nat × Value) := []
def xFL_10 : List xFE := []
def xCL_10 : List xCE := [(1, 1, 47, [])]
def xNL_10 : List (Nat × Nat × List Value) := []
def xAL_10 : List (Nat × Nat) := []
def xKL_10 : List (Nat × Value) := []
def xFL_11 : List xFE := [(11, 0, 2, true, [10]), (15, 1, 2, true, [10]), (20, 2, 2, true, [10]), (27, 3, 2, true, [10]), (31, 4, 2, true, [10]), (38, 5, 2, false, [10]), (42, 6, 2, false, [10]), (48, 7, 2, true, [10]), (52, 8, 2, true, [10]), (56, 9, 2, true, [10]), (62, 10, 2, true, [10]), (66, 11, 0, false, [10]), (70, 12, 1, false, [10]), (74, 13, 1, false, [10]), (77, 14, 0, false, [10]), (80, 15, 2, true, [10])]
def xCL_11 : List xCE := [(1, 4, 0, []), (26, 2, 22, []), (37, 2, 54, []), (45, 1, 0, []), (61, 2, 12, []), (83, 0, 131, []), (87, 3, 0, [(2, 25)]), (90, 0, 123, []), (94, 3, 1, [(10, 122)]), (98, 3, 2, [(0, 7)]), (102, 0, 128, []), (106, 3, 1, [(0, 5)]), (109, 3, 2, [(0, 6)]), (112, 3, 0, [(0, 1)]), (116, 3, 0, [(0, 8)]), (117, 3, 2, [(0, 4)]), (121, 3, 4, [(0, 9)]), (125, 3, 0, [(0, 2)]), (129, 0, 124, []), (132, 3, 1, [(7, 65)]), (136, 3, 1, [(2, 30)]), (139, 3, 0, [(7, 55)]), (142, 3, 1, [(10, 127)]), (145, 3, 2, [(10, 133)]), (149, 3, 1, [(10, 132)]), (153, 3, 0, [(2, 23)]), (154, 3, 1, [(3, 74), (4, 43), (5, 43), (6, 50), (8, 74), (9, 50)]), (157, 3, 0, [(3, 49), (4, 49), (5, 49), (6, 49), (8, 49), (9, 49)]), (160, 3, 3, [(7, 61)]), (164, 3, 1, [(10, 134)]), (168, 3, 3, [(7, 62)]), (172, 0, 239, []), (177, 0, 46, []), (182, 3, 3, [(7, 60)]), (185, 0, 126, []), (188, 3, 1, [(7, 59)]), (191, 3, 0, [(7, 56)]), (194, 3, 2, [(7, 58)]), (197, 3, 2, [(10, 135)]), (200, 3, 2, [(2, 26)]), (203, 3, 0, [(2, 35)]), (206, 3, 1, [(2, 34)]), (209, 0, 125, []), (212, 3, 1, [(2, 31)]), (216, 3, 0, [(2, 24)]), (217, 0, 129, []), (220, 3, 1, [(0, 10)]), (223, 3, 2, [(7, 64)]), (226, 0, 130, []), (230, 3, 2, [(10, 140)]), (234, 3, 2, [(10, 148)]), (238, 0, 141, []), (241, 3, 1, [(0, 3)]), (244, 3, 2, [(10, 143)]), (248, 3, 2, [(10, 144)]), (251, 3, 3, [(10, 142)]), (255, 6, 0, []), (260, 3, 3, [(1, 16)]), (264, 3, 0, [(1, 13)]), (266, 3, 0, [(1, 15)]), (269, 3, 0, [(1, 14)]), (272, 3, 2, [(10, 145)]), (275, 3, 4, [(10, 147)]), (289, 3, 1, [(10, 136)]), (292, 0, 138, []), (296, 3, 0, [(10, 137)]), (303, 3, 1, [(10, 118)]), (306, 0, 139, []), (312, 1, 41, []), (316, 1, 72, []), (319, 1, 75, []), (320, 1, 44, []), (323, 1, 38, []), (324, 1, 47, []), (325, 3, 1, [(7, 57)]), (328, 3, 0, [(3, 48), (4, 48), (5, 48), (6, 48), (8, 48), (9, 48)]), (331, 3, 1, [(2, 32)]), (334, 3, 1, [(2, 33)]), (337, 3, 2, [(2, 28)]), (340, 3, 2, [(7, 63)]), (343, 3, 3, [(2, 29)]), (347, 3, 1, [(3, 39), (4, 42), (5, 45), (6, 51), (8, 73), (9, 51)]), (350, 5, 0, []), (353, 3, 1, [(10, 146)]), (356, 0, 149, [])]
def xNL_11 : List (Nat × Nat × List Value) := [(9, 0, [.null, .int 0]), (18, 6, [.int 0, .int 0]), (24, 2, [.null, .int 0]), (35, 7, [.null, .null, .int 0, .null, .int 0]), (59, 1, [.null, .null, .int 0, .int 0, .int 0]), (178, 5, [.int 0, .int 0]), (310, 4, [.int 0, .int 0]), (314, 8, [.int 0, .int 0]), (317, 9, [.int 0, .int 0]), (321, 3, [.int 0, .int 0])]
def xAL_11 : List (Nat × Nat) := [(9, 0), (18, 2), (24, 1)]
def xKL_11 : List (Nat × Value) := [(279, .long 12), (281, .long 2147483647), (283, .long 48271), (285, .long 8), (287, .long 6), (299, .long 17), (301, .long 31)]
def xFL_12 : List xFE := [(7, 0, 2, true, [11]), (13, 1, 2, true, [11]), (16, 2, 2, true, [11]), (19, 3, 2, true, [11]), (22, 4, 2, true, [11]), (25, 6, 2, true, [11]), (28, 8, 2, true, [11]), (31, 9, 2, true, [11]), (34, 11, 2, true, [11]), (37, 13, 2, true, [11]), (40, 15, 2, true, [11]), (43, 16, 2, true, [11]), (46, 17, 2, true, [11]), (49, 18, 2, true, [11]), (52, 19, 2, true, [11]), (55, 22, 1, false, [11]), (59, 24, 2, true, [11]), (62, 25, 2, true, [11]), (65, 26, 2, true, [11]), (68, 27, 2, true, [11]), (71, 23, 0, false, [11]), (75, 20, 0, false, [11]), (106, 28, 0, false, [11]), (112, 29, 0, false, [11]), (109, 30, 0, false, [11]), (125, 5, 0, false, [11]), (128, 7, 0, false, [11]), (147, 10, 0, false, [11]), (150, 12, 0, false, [11]), (153, 14, 0, false, [11]), (78, 21, 1, false, [11]), (260, 31, 1, false, [11])]
def xCL_12 : List xCE := [(1, 4, 0, []), (81, 0, 151, []), (85, 0, 156, []), (89, 3, 1, [(11, 153)]), (93, 3, 2, [(11, 159)]), (97, 3, 1, [(11, 154)]), (100, 0, 163, []), (103, 0, 157, []), (115, 3, 0, [(11, 168)]), (119, 3, 0, [(11, 169)]), (122, 3, 1, [(11, 170)]), (131, 0, 171, []), (134, 3, 0, [(11, 172)]), (138, 3, 0, [(11, 173)]), (141, 3, 0, [(11, 174)]), (144, 3, 1, [(11, 175)]), (156, 0, 180, []), (159, 3, 4, [(11, 181)]), (163, 3, 3, [(11, 182)]), (167, 3, 1, [(11, 184)]), (170, 3, 2, [(11, 183)]), (173, 3, 1, [(11, 178)]), (176, 3, 1, [(11, 185)]), (179, 0, 186, []), (183, 0, 179, []), (186, 3, 2, [(11, 191)]), (189, 3, 0, [(11, 194)]), (192, 3, 3, [(11, 199)]), (196, 3, 3, [(11, 201)]), (199, 3, 2, [(11, 203)]), (202, 3, 2, [(11, 200)]), (205, 0, 207, []), (208, 3, 2, [(11, 208)]), (212, 3, 2, [(11, 209)]), (215, 3, 2, [(11, 155)]), (219, 3, 1, [(11, 213)]), (222, 0, 215, []), (225, 0, 152, []), (228, 3, 2, [(11, 218)]), (231, 3, 1, [(11, 221)]), (234, 3, 1, [(11, 222)]), (248, 3, 1, [(11, 231)]), (251, 0, 232, []), (255, 3, 1, [(11, 233)]), (265, 3, 1, [(11, 237)])]
def xNL_12 : List (Nat × Nat × List Value) := []
def xAL_12 : List (Nat × Nat) := []
def xKL_12 : List (Nat × Value) := [(237, .long 12), (239, .int 2147483646), (240, .long 48271), (242, .long 2147483647), (244, .long 8), (246, .long 6), (263, .long 17), (258, .long 31)]
def xFL_13 : List xFE := []
def xCL_13 : List xCE := [(9, 1, 77, []), (12, 1, 150, []), (13, 3, 2, [(10, 78)]), (17, 3, 2, [(11, 158)]), (18, 3, 3, [(10, 79)]), (22, 3, 3, [(11, 160)]), (23, 3, 2, [(10, 80)]), (26, 3, 2, [(11, 161)]), (27, 3, 1, [(10, 81)]), (31, 3, 1, [(11, 162)]), (32, 3, 5, [(10, 82)]), (36, 3, 5, [(11, 164)]), (37, 3, 1, [(10, 83)]), (40, 3, 1, [(11, 165)]), (41, 3, 2, [(10, 84)]), (44, 3, 2, [(11, 166)]), (45, 3, 3, [(10, 85)]), (48, 3, 3, [(11, 167)]), (49, 3, 1, [(10, 86)]), (52, 3, 1, [(11, 176)]), (53, 3, 1, [(10, 87)]), (56, 3, 1, [(11, 177)]), (57, 3, 2, [(10, 88)]), (60, 3, 2, [(11, 187)]), (61, 3, 2, [(10, 89)]), (64, 3, 2, [(11, 188)]), (65, 3, 1, [(10, 90)]), (68, 3, 1, [(11, 189)]), (69, 3, 2, [(10, 91)]), (72, 3, 2, [(11, 190)]), (73, 3, 2, [(10, 92)]), (76, 3, 2, [(11, 192)]), (77, 3, 2, [(10, 93)]), (80, 3, 2, [(11, 193)]), (81, 3, 0, [(10, 94)]), (85, 3, 0, [(11, 195)]), (86, 3, 1, [(10, 95)]), (89, 3, 1, [(11, 196)]), (90, 3, 1, [(10, 96)]), (93, 3, 1, [(11, 197)]), (94, 3, 1, [(10, 97)]), (97, 3, 1, [(11, 198)]), (98, 3, 3, [(10, 98)]), (101, 3, 3, [(11, 202)]), (102, 3, 2, [(10, 99)]), (105, 3, 2, [(11, 204)]), (106, 3, 2, [(10, 100)]), (109, 3, 2, [(11, 205)]), (110, 3, 2, [(10, 101)]), (113, 3, 2, [(11, 206)]), (114, 3, 2, [(10, 102)]), (117, 3, 2, [(11, 210)]), (118, 3, 3, [(10, 103)]), (121, 3, 3, [(11, 211)]), (122, 3, 3, [(10, 104)]), (125, 3, 3, [(11, 212)]), (126, 3, 2, [(10, 105)]), (129, 3, 2, [(11, 214)]), (130, 3, 2, [(10, 106)]), (133, 3, 2, [(11, 216)]), (134, 3, 3, [(10, 107)]), (137, 3, 3, [(11, 217)]), (138, 3, 2, [(10, 108)]), (141, 3, 2, [(11, 219)]), (142, 3, 2, [(10, 109)]), (145, 3, 2, [(11, 220)]), (146, 3, 1, [(10, 110)]), (149, 3, 1, [(11, 223)]), (150, 3, 1, [(10, 111)]), (153, 3, 1, [(11, 224)]), (154, 3, 3, [(10, 112)]), (157, 3, 3, [(11, 225)]), (158, 3, 3, [(10, 113)]), (161, 3, 3, [(11, 226)]), (162, 3, 2, [(10, 114)]), (165, 3, 2, [(11, 227)]), (166, 3, 0, [(10, 115)]), (169, 3, 0, [(11, 228)]), (170, 3, 0, [(10, 116)]), (174, 3, 0, [(11, 229)]), (175, 3, 0, [(10, 117)]), (178, 3, 0, [(11, 230)]), (179, 3, 1, [(10, 118)]), (182, 3, 1, [(11, 234)]), (183, 3, 0, [(10, 119)]), (186, 3, 0, [(11, 235)]), (187, 3, 1, [(10, 120)]), (190, 3, 1, [(11, 236)]), (191, 3, 0, [(10, 121)]), (194, 3, 0, [(11, 238)])]
def xNL_13 : List (Nat × Nat × List Value) := [(7, 10, [.null, .null, .null, .null, .null, .null, .null, .null, .null, .null, .null, .int 0, .long 0, .long 0, .int 0, .null]), (10, 11, [.null, .null, .null, .null, .null, .int 0, .null, .int 0, .null, .null, .int 0, .null, .int 0, .null, .int 0, .null, .null, .null, .null, .null, .int 0, .long 0, .long 0, .int 0, .null, .null, .null, .null, .int 0, .int 0, .int 0, .long 0])]
def xAL_13 : List (Nat × Nat) := []
def xKL_13 : List (Nat × Value) := []
def xFL_14 : List xFE := []
def xCL_14 : List xCE := []
def xNL_14 : List (Nat × Nat × List Value) := []
def xAL_14 : List (Nat × Nat) := []
def xKL_14 : List (Nat × Value) := [(265, .int 1431655765), (266, .int 858993459), (267, .int 252645135)]
def xFL : List (List xFE) := [xFL_0, xFL_1, xFL_2, xFL_3, xFL_4, xFL_5, xFL_6, xFL_7, xFL_8, xFL_9, xFL_10, xFL_11, xFL_12, xFL_13, xFL_14]
def xCL : List (List xCE) := [xCL_0, xCL_1, xCL_2, xCL_3, xCL_4, xCL_5, xCL_6, xCL_7, xCL_8, xCL_9, xCL_10, xCL_11, xCL_12, xCL_13, xCL_14]
def xNL : List (List (Nat × Nat × List Value)) := [xNL_0, xNL_1, xNL_2, xNL_3, xNL_4, xNL_5, xNL_6, xNL_7, xNL_8, xNL_9, xNL_10, xNL_11, xNL_12, xNL_13, xNL_14]
def xAL : List (List (Nat × Nat)) := [xAL_0, xAL_1, xAL_2, xAL_3, xAL_4, xAL_5, xAL_6, xAL_7, xAL_8, xAL_9, xAL_10, xAL_11, xAL_12, xAL_13, xAL_14]
def xKL : List (List (Nat × Value)) := [xKL_0, xKL_1, xKL_2, xKL_3, xKL_4, xKL_5, xKL_6, xKL_7, xKL_8, xKL_9, xKL_10, xKL_11, xKL_12, xKL_13, xKL_14]
def xf (oc i : Nat) : Option xFE := match xFL[oc]? with
  | some r => r.find? (fun q => q.1 == i)
  | none => none
def xc (oc i : Nat) : Option xCE := match xCL[oc]? with
  | some r => r.find? (fun q => q.1 == i)
  | none => none
def xn (oc i : Nat) : Option (Nat × Nat × List Value) := match xNL[oc]? with
  | some r => r.find? (fun q => q.1 == i)
  | none => none
def xa (oc i : Nat) : Option (Nat × Nat) := match xAL[oc]? with
  | some r => r.find? (fun q => q.1 == i)
  | none => none
def xk (oc i : Nat) : Option (Nat × Value) := match xKL[oc]? with
  | some r => r.find? (fun q => q.1 == i)
  | none => none
def xt_0 : xI := [[(0, .aload_n 0, 1), (1, .invokespecial 3, 3), (4, .aload_n 0, 1), (5, .iconst (-1), 1), (6, .putfield 9, 3), (9, .aload_n 0, 1), (10, .iload_n 1, 1), (11, .iconst 0, 1), (12, .invokestatic 15, 3), (15, .newarray .int, 2)], [(17, .putfield 21, 3), (20, .return_, 1)]]
def xt_1 : xI := [[(0, .aload_n 0, 1), (1, .getfield 9, 3), (4, .iconst (-1), 1), (5, .if_icmp .ne 7, 3), (8, .iconst 1, 1), (9, .goto 4, 3), (12, .iconst 0, 1), (13, .ireturn, 1)]]
def xt_2 : xI := [[(0, .aload_n 0, 1), (1, .getfield 9, 3), (4, .ireturn, 1)]]
def xt_3 : xI := [[(0, .iload_n 1, 1), (1, .ifCond .lt 24, 3), (4, .iload_n 1, 1), (5, .aload_n 0, 1), (6, .getfield 9, 3), (9, .if_icmp .ge 16, 3), (12, .iload_n 1, 1), (13, .aload_n 0, 1), (14, .getfield 21, 3)], [(17, .arraylength, 1), (18, .if_icmp .ge 7, 3), (21, .iconst 1, 1), (22, .goto 4, 3), (25, .iconst 0, 1), (26, .ireturn, 1)]]
def xt_4 : xI := [[(0, .iload_n 1, 1), (1, .ifCond .lt 25, 3), (4, .iload_n 1, 1), (5, .aload_n 0, 1), (6, .getfield 9, 3), (9, .if_icmp .gt 17, 3), (12, .iload_n 2, 1), (13, .aload_n 0, 1), (14, .getfield 9, 3)], [(17, .iload_n 1, 1), (18, .isub, 1), (19, .if_icmp .gt 7, 3), (22, .iconst 1, 1), (23, .goto 4, 3), (26, .iconst 0, 1), (27, .ireturn, 1)]]
def xt_5 : xI := [[(0, .aload_n 0, 1), (1, .iload_n 1, 1), (2, .invokevirtual 25, 3), (5, .ifCond .eq 12, 3), (8, .aload_n 0, 1), (9, .getfield 21, 3), (12, .iload_n 1, 1), (13, .iaload, 1), (14, .goto 4, 3)], [(17, .iconst 0, 1), (18, .ireturn, 1)]]
def xt_6 : xI := [[(0, .aload_n 0, 1), (1, .iload_n 1, 1), (2, .invokevirtual 25, 3), (5, .ifCond .eq 10, 3), (8, .aload_n 0, 1), (9, .getfield 21, 3), (12, .iload_n 1, 1), (13, .iload_n 2, 1), (14, .iastore, 1), (15, .return_, 1)]]
def xt_7 : xI := [[(0, .aload_n 0, 1), (1, .iconst 0, 1), (2, .iload_n 1, 1), (3, .aload_n 0, 1), (4, .getfield 21, 3), (7, .arraylength, 1), (8, .invokestatic 29, 3), (11, .invokestatic 15, 3), (14, .putfield 9, 3)], [(17, .iconst 0, 1), (18, .istore_n 3, 1), (19, .iload_n 3, 1), (20, .aload_n 0, 1), (21, .getfield 9, 3), (24, .if_icmp .ge 16, 3), (27, .aload_n 0, 1), (28, .getfield 21, 3), (31, .iload_n 3, 1)], [(32, .iload_n 2, 1), (33, .iastore, 1), (34, .iinc 3 1, 3), (37, .goto (-18), 3), (40, .return_, 1)]]
def xt_8 : xI := [[(0, .aload_n 0, 1), (1, .iconst (-1), 1), (2, .putfield 9, 3), (5, .return_, 1)]]
def xt_9 : xI := [[(0, .iload 4, 2), (2, .ifCond .le 38, 3), (5, .aload_n 1, 1), (6, .iload_n 2, 1), (7, .iload 4, 2), (9, .invokevirtual 32, 3), (12, .ifCond .eq 28, 3), (15, .aload_n 0, 1)], [(16, .iload_n 3, 1), (17, .iload 4, 2), (19, .invokevirtual 32, 3), (22, .ifCond .eq 18, 3), (25, .aload_n 1, 1), (26, .getfield 21, 3), (29, .iload_n 2, 1), (30, .aload_n 0, 1), (31, .getfield 21, 3)], [(34, .iload_n 3, 1), (35, .iload 4, 2), (37, .invokestatic 36, 3), (40, .return_, 1)]]
def xt_10 : xI := [[(0, .aload_n 0, 1), (1, .aload_n 1, 1), (2, .getfield 9, 3), (5, .iconst 0, 1), (6, .invokevirtual 42, 3), (9, .aload_n 0, 1), (10, .aload_n 1, 1), (11, .iconst 0, 1), (12, .iconst 0, 1), (13, .aload_n 0, 1), (14, .getfield 9, 3)], [(17, .invokevirtual 46, 3), (20, .return_, 1)]]
def xt_11 : xI := [[(0, .aload_n 0, 1), (1, .iload_n 1, 1), (2, .invokevirtual 50, 3), (5, .ireturn, 1)]]
def xt_12 : xI := [[(0, .aload_n 0, 1), (1, .invokespecial 3, 3), (4, .aload_n 0, 1), (5, .bipush 30, 2), (7, .newarray .int, 2), (9, .putfield 9, 3), (12, .aload_n 0, 1), (13, .bipush 30, 2), (15, .newarray .int, 2)], [(17, .putfield 15, 3), (20, .aload_n 0, 1), (21, .iconst 1, 1), (22, .putfield 18, 3), (25, .aload_n 0, 1), (26, .iconst 0, 1), (27, .putfield 22, 3), (30, .aload_n 0, 1), (31, .iconst 0, 1)], [(32, .putfield 25, 3), (35, .return_, 1)]]
def xt_13 : xI := [[(0, .aload_n 0, 1), (1, .getfield 18, 3), (4, .ireturn, 1)]]
def xt_14 : xI := [[(0, .aload_n 0, 1), (1, .getfield 22, 3), (4, .ireturn, 1)]]
def xt_15 : xI := [[(0, .aload_n 0, 1), (1, .getfield 25, 3), (4, .ireturn, 1)]]
def xt_16 : xI := [[(0, .aload_n 0, 1), (1, .iconst 1, 1), (2, .putfield 18, 3), (5, .aload_n 0, 1), (6, .iconst 0, 1), (7, .putfield 22, 3), (10, .aload_n 0, 1), (11, .iconst 0, 1), (12, .putfield 25, 3), (15, .iload_n 3, 1)], [(16, .iconst 5, 1), (17, .invokestatic 28, 3), (20, .iconst 1, 1), (21, .isub, 1), (22, .istore 4, 2), (24, .iload 4, 2), (26, .ifCond .lt 61, 3), (29, .aload_n 2, 1), (30, .iload 4, 2)], [(32, .iload_n 3, 1), (33, .invokestatic 34, 3), (36, .istore 5, 2), (38, .iconst 0, 1), (39, .istore 6, 2), (41, .iload 6, 2), (43, .bipush 6, 2), (45, .if_icmp .ge 21, 3)], [(48, .aload_n 0, 1), (49, .aload_n 1, 1), (50, .aload_n 2, 1), (51, .iload 4, 2), (53, .iload 5, 2), (55, .iload 6, 2), (57, .invokevirtual 38, 3), (60, .iinc 6 1, 3), (63, .goto (-22), 3)], [(66, .aload_n 2, 1), (67, .iload 4, 2), (69, .invokestatic 42, 3), (72, .ifCond .eq 9, 3), (75, .aload_n 0, 1), (76, .iload 4, 2), (78, .invokevirtual 46, 3)], [(81, .iinc 4 (-1), 3), (84, .goto (-60), 3), (87, .aload_n 0, 1), (88, .getfield 18, 3), (91, .ifCond .ne 8, 3), (94, .aload_n 0, 1), (95, .iconst 0, 1)], [(96, .putfield 25, 3), (99, .return_, 1)]]
def xt_17 : xI := [[(0, .aload_n 0, 1), (1, .iload_n 1, 1), (2, .invokevirtual 50, 3), (5, .istore_n 2, 1), (6, .iload_n 2, 1), (7, .iconst (-1), 1), (8, .if_icmp .eq 8, 3), (11, .iload_n 2, 1), (12, .iload_n 1, 1), (13, .if_icmp .ne 7, 3)], [(16, .iconst 1, 1), (17, .goto 4, 3), (20, .iconst 0, 1), (21, .ireturn, 1)]]
def xt_18 : xI := [[(0, .iload_n 1, 1), (1, .iconst 1, 1), (2, .iadd, 1), (3, .istore_n 3, 1), (4, .iload_n 3, 1), (5, .iload_n 2, 1), (6, .if_icmp .ge 25, 3), (9, .iload_n 3, 1), (10, .iconst 5, 1), (11, .if_icmp .ge 20, 3), (14, .aload_n 0, 1), (15, .iload_n 3, 1)], [(16, .invokevirtual 50, 3), (19, .iload_n 1, 1), (20, .if_icmp .ne 5, 3), (23, .iload_n 3, 1), (24, .ireturn, 1), (25, .iinc 3 1, 3), (28, .goto (-24), 3), (31, .iconst (-1), 1)], [(32, .ireturn, 1)]]
def xt_19 : xI := [[(0, .iload 4, 2), (2, .iconst (-1), 1), (3, .if_icmp .ne 7, 3), (6, .iconst 1, 1), (7, .goto 4, 3), (10, .iconst 0, 1), (11, .istore 6, 2), (13, .iload 4, 2), (15, .iconst (-1), 1)], [(16, .if_icmp .ne 7, 3), (19, .iconst 0, 1), (20, .goto 6, 3), (23, .sipush 1000, 3), (26, .istore 7, 2), (28, .iload 4, 2), (30, .iconst (-1), 1), (31, .if_icmp .eq 79, 3)], [(34, .aload_n 1, 1), (35, .aload_n 2, 1), (36, .iload 4, 2), (38, .iload 5, 2), (40, .invokevirtual 56, 3), (43, .istore 8, 2), (45, .iconst 0, 1), (46, .istore 9, 2)], [(48, .iload 9, 2), (50, .bipush 6, 2), (52, .if_icmp .ge 58, 3), (55, .aload_n 1, 1), (56, .iload 9, 2), (58, .iload 8, 2), (60, .invokevirtual 61, 3), (63, .ifCond .ne 41, 3)], [(66, .iload 6, 2), (68, .aload_n 0, 1), (69, .getfield 9, 3), (72, .iload 4, 2), (74, .bipush 6, 2), (76, .imul, 1), (77, .iload 9, 2), (79, .iadd, 1)], [(80, .iaload, 1), (81, .iadd, 1), (82, .istore 6, 2), (84, .iload 7, 2), (86, .aload_n 0, 1), (87, .getfield 15, 3), (90, .iload 4, 2), (92, .bipush 6, 2), (94, .imul, 1), (95, .iload 9, 2)], [(97, .iadd, 1), (98, .iaload, 1), (99, .invokestatic 28, 3), (102, .istore 7, 2), (104, .iinc 9 1, 3), (107, .goto (-59), 3), (110, .aload_n 2, 1), (111, .iload_n 3, 1)], [(112, .invokestatic 42, 3), (115, .ifCond .eq 23, 3), (118, .aload_n 1, 1), (119, .iload 5, 2), (121, .aload_n 1, 1), (122, .aload_n 2, 1), (123, .iload_n 3, 1), (124, .iload 5, 2), (126, .invokestatic 65, 3)], [(129, .invokevirtual 61, 3), (132, .ifCond .eq 6, 3), (135, .iconst 0, 1), (136, .istore 6, 2), (138, .aload_n 0, 1), (139, .getfield 9, 3), (142, .iload_n 3, 1), (143, .bipush 6, 2)], [(145, .imul, 1), (146, .iload 5, 2), (148, .iadd, 1), (149, .iload 6, 2), (151, .iastore, 1), (152, .aload_n 0, 1), (153, .getfield 15, 3), (156, .iload_n 3, 1), (157, .bipush 6, 2), (159, .imul, 1)], [(160, .iload 5, 2), (162, .iadd, 1), (163, .iload 6, 2), (165, .ifCond .ne 9, 3), (168, .sipush 1000, 3), (171, .goto 16, 3), (174, .iload 7, 2)], [(176, .iload 5, 2), (178, .ifCond .ne 7, 3), (181, .iconst 1, 1), (182, .goto 4, 3), (185, .iconst 0, 1), (186, .iadd, 1), (187, .iastore, 1), (188, .return_, 1)]]
def xt_20 : xI := [[(0, .aload_n 1, 1), (1, .iload_n 2, 1), (2, .invokevirtual 50, 3), (5, .iconst (-1), 1), (6, .if_icmp .ne 7, 3), (9, .iconst 0, 1), (10, .goto 10, 3), (13, .aload_n 0, 1), (14, .aload_n 1, 1), (15, .iload_n 2, 1)], [(16, .iload_n 3, 1), (17, .invokevirtual 56, 3), (20, .ireturn, 1)]]
def xt_21 : xI := [[(0, .iconst 0, 1), (1, .istore_n 2, 1), (2, .sipush 1000, 3), (5, .istore_n 3, 1), (6, .aload_n 0, 1), (7, .iconst 0, 1), (8, .putfield 25, 3), (11, .iconst 0, 1), (12, .istore 4, 2), (14, .iload 4, 2)], [(16, .bipush 6, 2), (18, .if_icmp .ge 67, 3), (21, .aload_n 0, 1), (22, .getfield 9, 3), (25, .iload_n 1, 1), (26, .bipush 6, 2), (28, .imul, 1), (29, .iload 4, 2), (31, .iadd, 1)], [(32, .iaload, 1), (33, .istore 5, 2), (35, .iload_n 2, 1), (36, .iload 5, 2), (38, .iadd, 1), (39, .istore_n 2, 1), (40, .iload_n 3, 1), (41, .aload_n 0, 1), (42, .getfield 15, 3), (45, .iload_n 1, 1), (46, .bipush 6, 2)], [(48, .imul, 1), (49, .iload 4, 2), (51, .iadd, 1), (52, .iaload, 1), (53, .invokestatic 28, 3), (56, .istore_n 3, 1), (57, .aload_n 0, 1), (58, .dup, 1), (59, .getfield 25, 3), (62, .iload 5, 2)], [(64, .ifCond .le 10, 3), (67, .iconst 1, 1), (68, .iload 4, 2), (70, .ishl, 1), (71, .goto 4, 3), (74, .iconst 0, 1), (75, .ior, 1), (76, .putfield 25, 3), (79, .iinc 4 1, 3)], [(82, .goto (-68), 3), (85, .aload_n 0, 1), (86, .dup, 1), (87, .getfield 18, 3), (90, .iload_n 2, 1), (91, .imul, 1), (92, .putfield 18, 3), (95, .aload_n 0, 1)], [(96, .dup, 1), (97, .getfield 22, 3), (100, .iload_n 3, 1), (101, .iadd, 1), (102, .putfield 22, 3), (105, .return_, 1)]]
def xt_22 : xI := [[(0, .aload_n 0, 1), (1, .invokespecial 3, 3), (4, .aload_n 0, 1), (5, .sipush 160, 3), (8, .newarray .int, 2), (10, .putfield 11, 3), (13, .aload_n 0, 1), (14, .iconst 0, 1), (15, .putfield 15, 3)], [(18, .return_, 1)]]
def xt_23 : xI := [[(0, .aload_n 0, 1), (1, .getfield 15, 3), (4, .ireturn, 1)]]
def xt_24 : xI := [[(0, .aload_n 0, 1), (1, .getfield 15, 3), (4, .iconst (-1), 1), (5, .if_icmp .ne 7, 3), (8, .iconst 1, 1), (9, .goto 4, 3), (12, .iconst 0, 1), (13, .ireturn, 1)]]
def xt_25 : xI := [[(0, .aload_n 0, 1), (1, .iconst (-1), 1), (2, .putfield 15, 3), (5, .return_, 1)]]
def xt_26 : xI := [[(0, .iload_n 1, 1), (1, .ifCond .lt 24, 3), (4, .iload_n 1, 1), (5, .aload_n 0, 1), (6, .getfield 15, 3), (9, .if_icmp .ge 16, 3), (12, .iload_n 2, 1), (13, .ifCond .lt 12, 3)], [(16, .iload_n 2, 1), (17, .iconst 4, 1), (18, .if_icmp .ge 7, 3), (21, .iconst 1, 1), (22, .goto 4, 3), (25, .iconst 0, 1), (26, .istore_n 3, 1), (27, .iload_n 3, 1), (28, .ifCond .eq 16, 3), (31, .aload_n 0, 1)], [(32, .getfield 11, 3), (35, .iconst 4, 1), (36, .iload_n 1, 1), (37, .imul, 1), (38, .iload_n 2, 1), (39, .iadd, 1), (40, .iaload, 1), (41, .goto 4, 3), (44, .iconst 0, 1), (45, .ireturn, 1)]]
def xt_27 : xI := [[(0, .iload_n 1, 1), (1, .ifCond .lt 20, 3), (4, .iload_n 1, 1), (5, .bipush 40, 2), (7, .if_icmp .ge 14, 3), (10, .aload_n 0, 1), (11, .getfield 11, 3), (14, .iconst 4, 1), (15, .iload_n 1, 1)], [(16, .imul, 1), (17, .iload_n 2, 1), (18, .iadd, 1), (19, .iload_n 3, 1), (20, .iastore, 1), (21, .return_, 1)]]
def xt_28 : xI := [[(0, .aload_n 0, 1), (1, .getfield 15, 3), (4, .ifCond .lt 53, 3), (7, .aload_n 0, 1), (8, .getfield 15, 3), (11, .bipush 40, 2), (13, .if_icmp .ge 44, 3)], [(16, .aload_n 0, 1), (17, .aload_n 0, 1), (18, .getfield 15, 3), (21, .iconst 0, 1), (22, .iload_n 1, 1), (23, .invokevirtual 19, 3), (26, .aload_n 0, 1), (27, .aload_n 0, 1), (28, .getfield 15, 3), (31, .iconst 1, 1)], [(32, .iload_n 2, 1), (33, .invokevirtual 19, 3), (36, .aload_n 0, 1), (37, .aload_n 0, 1), (38, .getfield 15, 3), (41, .iconst 0, 1), (42, .bipush (-9), 2), (44, .invokevirtual 23, 3), (47, .aload_n 0, 1)], [(48, .dup, 1), (49, .getfield 15, 3), (52, .iconst 1, 1), (53, .iadd, 1), (54, .putfield 15, 3), (57, .return_, 1)]]
def xt_29 : xI := [[(0, .aload_n 0, 1), (1, .iload_n 1, 1), (2, .iconst 2, 1), (3, .iload_n 2, 1), (4, .invokevirtual 19, 3), (7, .aload_n 0, 1), (8, .iload_n 1, 1), (9, .iconst 3, 1), (10, .iload_n 3, 1), (11, .invokevirtual 19, 3), (14, .return_, 1)]]
def xt_30 : xI := [[(0, .iload_n 1, 1), (1, .ifCond .lt 16, 3), (4, .iload_n 1, 1), (5, .aload_n 0, 1), (6, .getfield 15, 3), (9, .if_icmp .ge 8, 3), (12, .aload_n 0, 1), (13, .iload_n 1, 1), (14, .putfield 15, 3)], [(17, .return_, 1)]]
def xt_31 : xI := [[(0, .aload_n 0, 1), (1, .aload_n 1, 1), (2, .getfield 15, 3), (5, .putfield 15, 3), (8, .aload_n 0, 1), (9, .getfield 15, 3), (12, .ifCond .le 31, 3), (15, .aload_n 0, 1)], [(16, .getfield 15, 3), (19, .bipush 40, 2), (21, .if_icmp .gt 22, 3), (24, .aload_n 1, 1), (25, .getfield 11, 3), (28, .iconst 0, 1), (29, .aload_n 0, 1), (30, .getfield 11, 3)], [(33, .iconst 0, 1), (34, .iconst 4, 1), (35, .aload_n 0, 1), (36, .getfield 15, 3), (39, .imul, 1), (40, .invokestatic 26, 3), (43, .return_, 1)]]
def xt_32 : xI := [[(0, .iconst 0, 1), (1, .istore_n 2, 1), (2, .iconst 0, 1), (3, .istore_n 3, 1), (4, .iload_n 3, 1), (5, .aload_n 0, 1), (6, .getfield 15, 3), (9, .if_icmp .ge 22, 3), (12, .aload_n 0, 1), (13, .iload_n 3, 1), (14, .iconst 1, 1), (15, .invokevirtual 32, 3)], [(18, .iload_n 1, 1), (19, .if_icmp .ne 6, 3), (22, .iinc 2 1, 3), (25, .iinc 3 1, 3), (28, .goto (-24), 3), (31, .iload_n 2, 1)], [(32, .ireturn, 1)]]
def xt_33 : xI := [[(0, .iconst 0, 1), (1, .istore_n 2, 1), (2, .iconst 0, 1), (3, .istore_n 3, 1), (4, .iload_n 3, 1), (5, .aload_n 0, 1), (6, .getfield 15, 3), (9, .if_icmp .ge 33, 3), (12, .aload_n 0, 1), (13, .iload_n 3, 1), (14, .iconst 1, 1), (15, .invokevirtual 32, 3)], [(18, .iload_n 1, 1), (19, .if_icmp .ne 17, 3), (22, .aload_n 0, 1), (23, .iload_n 3, 1), (24, .iconst 3, 1), (25, .invokevirtual 32, 3), (28, .bipush (-9), 2), (30, .if_icmp .eq 6, 3)], [(33, .iinc 2 1, 3), (36, .iinc 3 1, 3), (39, .goto (-35), 3), (42, .iload_n 2, 1), (43, .ireturn, 1)]]
def xt_34 : xI := [[(0, .iconst 0, 1), (1, .istore_n 2, 1), (2, .iload_n 1, 1), (3, .istore_n 3, 1), (4, .iload_n 3, 1), (5, .aload_n 0, 1), (6, .getfield 15, 3), (9, .if_icmp .ge 23, 3), (12, .aload_n 0, 1), (13, .iload_n 3, 1), (14, .iconst 3, 1), (15, .invokevirtual 32, 3)], [(18, .bipush (-9), 2), (20, .if_icmp .eq 6, 3), (23, .iinc 2 1, 3), (26, .iinc 3 1, 3), (29, .goto (-25), 3)], [(32, .iload_n 2, 1), (33, .ireturn, 1)]]
def xt_35 : xI := [[(0, .iconst 0, 1), (1, .istore_n 1, 1), (2, .iload_n 1, 1), (3, .aload_n 0, 1), (4, .getfield 15, 3), (7, .if_icmp .ge 22, 3), (10, .aload_n 0, 1), (11, .iload_n 1, 1), (12, .iconst 3, 1), (13, .invokevirtual 32, 3)], [(16, .bipush (-9), 2), (18, .if_icmp .eq 5, 3), (21, .iload_n 1, 1), (22, .ireturn, 1), (23, .iinc 1 1, 3), (26, .goto (-24), 3), (29, .bipush (-9), 2), (31, .ireturn, 1)]]
def xt_36 : xI := [[(0, .aload_n 0, 1), (1, .iload_n 1, 1), (2, .iconst 0, 1), (3, .invokevirtual 32, 3), (6, .ireturn, 1)]]
def xt_37 : xI := [[(0, .aload_n 0, 1), (1, .invokespecial 1, 3), (4, .return_, 1)]]
def xt_38 : xI := [[(0, .aload_n 0, 1), (1, .iload_n 1, 1), (2, .iload_n 2, 1), (3, .invokespecial 1, 3), (6, .return_, 1)]]
def xt_39 : xI := [[(0, .iload_n 1, 1), (1, .ireturn, 1)]]
def xt_40 : xI := [[(0, .iload_n 1, 1), (1, .invokestatic 7, 3), (4, .ireturn, 1)]]
def xt_41 : xI := [[(0, .aload_n 0, 1), (1, .iload_n 1, 1), (2, .iload_n 2, 1), (3, .invokespecial 3, 3), (6, .return_, 1)]]
def xt_42 : xI := [[(0, .iload_n 1, 1), (1, .aload_n 0, 1), (2, .invokevirtual 9, 3), (5, .if_icmp .ge 7, 3), (8, .iconst (-1), 1), (9, .goto 9, 3), (12, .iload_n 1, 1), (13, .aload_n 0, 1), (14, .invokevirtual 9, 3)], [(17, .isub, 1), (18, .ireturn, 1)]]
def xt_43 : xI := [[(0, .iload_n 1, 1), (1, .iconst 1, 1), (2, .if_icmp .eq 11, 3), (5, .aload_n 0, 1), (6, .iload_n 1, 1), (7, .invokespecial 15, 3), (10, .ifCond .eq 7, 3), (13, .iconst 1, 1), (14, .goto 4, 3)], [(17, .iconst 0, 1), (18, .ireturn, 1)]]
def xt_44 : xI := [[(0, .aload_n 0, 1), (1, .iload_n 1, 1), (2, .iload_n 2, 1), (3, .invokespecial 3, 3), (6, .return_, 1)]]
def xt_45 : xI := [[(0, .iload_n 1, 1), (1, .invokestatic 9, 3), (4, .ifCond .ne 7, 3), (7, .iconst (-1), 1), (8, .goto 8, 3), (11, .aload_n 0, 1), (12, .iload_n 1, 1), (13, .invokespecial 15, 3)], [(16, .ireturn, 1)]]
def xt_46 : xI := [[(0, .iconst 2, 1), (1, .iload_n 0, 1), (2, .iconst 3, 1), (3, .irem, 1), (4, .isub, 1), (5, .ireturn, 1)]]
def xt_47 : xI := [[(0, .aload_n 0, 1), (1, .invokespecial 3, 3), (4, .aload_n 0, 1), (5, .iload_n 1, 1), (6, .putfield 9, 3), (9, .aload_n 0, 1), (10, .iload_n 2, 1), (11, .putfield 15, 3), (14, .return_, 1)]]
def xt_48 : xI := [[(0, .aload_n 0, 1), (1, .getfield 9, 3), (4, .ireturn, 1)]]
def xt_49 : xI := [[(0, .aload_n 0, 1), (1, .getfield 15, 3), (4, .ireturn, 1)]]
def xt_50 : xI := [[(0, .iload_n 1, 1), (1, .aload_n 0, 1), (2, .getfield 9, 3), (5, .if_icmp .eq 7, 3), (8, .iload_n 1, 1), (9, .ifCond .ne 7, 3), (12, .iconst 1, 1), (13, .goto 4, 3)], [(16, .iconst 0, 1), (17, .ireturn, 1)]]
def xt_51 : xI := [[(0, .iload_n 1, 1), (1, .ireturn, 1)]]
def xt_52 : xI := [[(0, .iconst 0, 1), (1, .ireturn, 1)]]
def xt_53 : xI := [[(0, .iload_n 0, 1), (1, .iconst 1, 1), (2, .iand, 1), (3, .iconst 1, 1), (4, .if_icmp .ne 7, 3), (7, .iconst 1, 1), (8, .goto 4, 3), (11, .iconst 0, 1), (12, .ireturn, 1)]]
def xt_54 : xI := [[(0, .aload_n 0, 1), (1, .invokespecial 3, 3), (4, .aload_n 0, 1), (5, .bipush 6, 2), (7, .newarray .int, 2), (9, .putfield 9, 3), (12, .aload_n 0, 1), (13, .bipush 6, 2), (15, .newarray .int, 2)], [(17, .putfield 15, 3), (20, .aload_n 0, 1), (21, .iconst 0, 1), (22, .putfield 18, 3), (25, .aload_n 0, 1), (26, .bipush 16, 2), (28, .newarray .int, 2), (30, .putfield 22, 3)], [(33, .aload_n 0, 1), (34, .iconst 0, 1), (35, .putfield 25, 3), (38, .return_, 1)]]
def xt_55 : xI := [[(0, .aload_n 0, 1), (1, .getfield 18, 3), (4, .ireturn, 1)]]
def xt_56 : xI := [[(0, .aload_n 0, 1), (1, .getfield 25, 3), (4, .ireturn, 1)]]
def xt_57 : xI := [[(0, .iload_n 1, 1), (1, .ifCond .lt 20, 3), (4, .iload_n 1, 1), (5, .aload_n 0, 1), (6, .getfield 18, 3), (9, .if_icmp .ge 12, 3), (12, .aload_n 0, 1), (13, .getfield 15, 3)], [(16, .iload_n 1, 1), (17, .iaload, 1), (18, .goto 4, 3), (21, .iconst 0, 1), (22, .ireturn, 1)]]
def xt_58 : xI := [[(0, .iload_n 1, 1), (1, .ifCond .lt 26, 3), (4, .iload_n 1, 1), (5, .aload_n 0, 1), (6, .getfield 25, 3), (9, .if_icmp .ge 18, 3), (12, .aload_n 0, 1), (13, .getfield 22, 3)], [(16, .iconst 2, 1), (17, .iload_n 1, 1), (18, .imul, 1), (19, .iload_n 2, 1), (20, .iconst 1, 1), (21, .iand, 1), (22, .iadd, 1), (23, .iaload, 1), (24, .goto 4, 3), (27, .iconst 0, 1), (28, .ireturn, 1)]]
def xt_59 : xI := [[(0, .iload_n 1, 1), (1, .invokestatic 28, 3), (4, .ifCond .eq 12, 3), (7, .aload_n 0, 1), (8, .getfield 9, 3), (11, .iload_n 1, 1), (12, .iaload, 1), (13, .goto 4, 3)], [(16, .iconst 0, 1), (17, .ireturn, 1)]]
def xt_60 : xI := [[(0, .aload_n 1, 1), (1, .iload_n 2, 1), (2, .invokevirtual 32, 3), (5, .ifCond .eq 11, 3), (8, .aload_n 0, 1), (9, .iload_n 3, 1), (10, .invokevirtual 37, 3), (13, .goto 4, 3)], [(16, .iload_n 3, 1), (17, .istore 4, 2), (19, .iload 4, 2), (21, .iconst 1, 1), (22, .if_icmp .eq 9, 3), (25, .iload 4, 2), (27, .iconst 2, 1), (28, .if_icmp .ne 10, 3), (31, .iconst 3, 1)], [(32, .iload 4, 2), (34, .isub, 1), (35, .goto 5, 3), (38, .iload 4, 2), (40, .ireturn, 1)]]
def xt_61 : xI := [[(0, .aload_n 1, 1), (1, .iload_n 3, 1), (2, .invokevirtual 41, 3), (5, .istore 4, 2), (7, .iload 4, 2), (9, .iconst (-1), 1), (10, .if_icmp .ne 7, 3), (13, .iconst 0, 1), (14, .goto 15, 3)], [(17, .aload_n 0, 1), (18, .aload_n 1, 1), (19, .iload_n 3, 1), (20, .aload_n 2, 1), (21, .iload 4, 2), (23, .invokevirtual 44, 3), (26, .invokevirtual 49, 3), (29, .ireturn, 1)]]
def xt_62 : xI := [[(0, .iconst 0, 1), (1, .istore 4, 2), (3, .iconst 0, 1), (4, .istore 5, 2), (6, .iload 5, 2), (8, .bipush 6, 2), (10, .if_icmp .ge 30, 3), (13, .aload_n 0, 1), (14, .aload_n 1, 1), (15, .iload_n 2, 1)], [(16, .iload 5, 2), (18, .invokevirtual 49, 3), (21, .iload_n 3, 1), (22, .if_icmp .ne 12, 3), (25, .iload 4, 2), (27, .iconst 1, 1), (28, .iload 5, 2), (30, .ishl, 1), (31, .ior, 1)], [(32, .istore 4, 2), (34, .iinc 5 1, 3), (37, .goto (-31), 3), (40, .iload 4, 2), (42, .ireturn, 1)]]
def xt_63 : xI := [[(0, .iconst 0, 1), (1, .istore_n 3, 1), (2, .iload_n 3, 1), (3, .aload_n 0, 1), (4, .getfield 25, 3), (7, .if_icmp .ge 37, 3), (10, .aload_n 0, 1), (11, .getfield 22, 3), (14, .iconst 2, 1), (15, .iload_n 3, 1)], [(16, .imul, 1), (17, .iaload, 1), (18, .iload_n 1, 1), (19, .if_icmp .ne 19, 3), (22, .aload_n 0, 1), (23, .getfield 22, 3), (26, .iconst 2, 1), (27, .iload_n 3, 1), (28, .imul, 1), (29, .iconst 1, 1), (30, .iadd, 1), (31, .iaload, 1)], [(32, .iload_n 2, 1), (33, .if_icmp .ne 5, 3), (36, .iload_n 3, 1), (37, .ireturn, 1), (38, .iinc 3 1, 3), (41, .goto (-39), 3), (44, .bipush (-9), 2), (46, .ireturn, 1)]]
def xt_64 : xI := [[(0, .aload_n 0, 1), (1, .iload_n 1, 1), (2, .iload_n 2, 1), (3, .invokevirtual 53, 3), (6, .bipush (-9), 2), (8, .if_icmp .eq 7, 3), (11, .iconst 1, 1), (12, .goto 4, 3), (15, .iconst 0, 1)], [(16, .ireturn, 1)]]
def xt_65 : xI := [[(0, .aload_n 0, 1), (1, .iconst 0, 1), (2, .putfield 18, 3), (5, .aload_n 0, 1), (6, .iconst 0, 1), (7, .putfield 25, 3), (10, .aload_n 1, 1), (11, .iconst 0, 1), (12, .invokestatic 57, 3), (15, .istore_n 2, 1)], [(16, .iload_n 2, 1), (17, .aload_n 1, 1), (18, .invokevirtual 61, 3), (21, .if_icmp .ge 13, 3), (24, .aload_n 1, 1), (25, .iload_n 2, 1), (26, .invokevirtual 67, 3), (29, .bipush 104, 2), (31, .if_icmp .eq 5, 3)], [(34, .iload_n 2, 1), (35, .ireturn, 1), (36, .iinc 2 1, 3), (39, .iconst 0, 1), (40, .istore_n 3, 1), (41, .iload_n 3, 1), (42, .bipush 6, 2), (44, .if_icmp .ge 38, 3), (47, .aload_n 1, 1)], [(48, .iload_n 2, 1), (49, .bipush 6, 2), (51, .invokestatic 70, 3), (54, .ifCond .ne 5, 3), (57, .iload_n 2, 1), (58, .ireturn, 1), (59, .aload_n 0, 1), (60, .getfield 9, 3), (63, .iload_n 3, 1)], [(64, .aload_n 1, 1), (65, .iload_n 2, 1), (66, .invokevirtual 67, 3), (69, .bipush 48, 2), (71, .isub, 1), (72, .iastore, 1), (73, .iinc 2 1, 3), (76, .iinc 3 1, 3), (79, .goto (-38), 3)], [(82, .aload_n 0, 1), (83, .aload_n 1, 1), (84, .iload_n 2, 1), (85, .invokevirtual 74, 3), (88, .ireturn, 1)]]
def xt_66 : xI := [[(0, .aload_n 1, 1), (1, .iload_n 2, 1), (2, .invokestatic 57, 3), (5, .istore_n 3, 1), (6, .iconst 0, 1), (7, .istore 4, 2), (9, .iload 4, 2), (11, .bipush 60, 2), (13, .if_icmp .ge 83, 3)], [(16, .iload_n 3, 1), (17, .aload_n 1, 1), (18, .invokevirtual 61, 3), (21, .if_icmp .ge 75, 3), (24, .aload_n 1, 1), (25, .iload_n 3, 1), (26, .invokevirtual 67, 3), (29, .bipush 110, 2), (31, .if_icmp .ne 7, 3)], [(34, .iconst 1, 1), (35, .goto 4, 3), (38, .iconst 0, 1), (39, .istore 5, 2), (41, .iload 5, 2), (43, .ifCond .eq 12, 3), (46, .aload_n 0, 1), (47, .aload_n 1, 1)], [(48, .iload_n 3, 1), (49, .invokevirtual 77, 3), (52, .goto 9, 3), (55, .aload_n 0, 1), (56, .aload_n 1, 1), (57, .iload_n 3, 1), (58, .invokevirtual 80, 3), (61, .istore 6, 2), (63, .iload 6, 2)], [(65, .bipush (-9), 2), (67, .if_icmp .eq 6, 3), (70, .iload 6, 2), (72, .ireturn, 1), (73, .aload_n 1, 1), (74, .iload_n 3, 1), (75, .iload 5, 2), (77, .ifCond .eq 7, 3)], [(80, .iconst 3, 1), (81, .goto 4, 3), (84, .iconst 2, 1), (85, .iadd, 1), (86, .invokestatic 57, 3), (89, .istore_n 3, 1), (90, .iinc 4 1, 3), (93, .goto (-84), 3)], [(96, .aload_n 0, 1), (97, .getfield 18, 3), (100, .ifCond .ne 10, 3), (103, .aload_n 1, 1), (104, .invokevirtual 61, 3), (107, .goto 5, 3), (110, .bipush (-9), 2)], [(112, .ireturn, 1)]]
def xt_67 : xI := [[(0, .aload_n 1, 1), (1, .iload_n 2, 1), (2, .invokevirtual 67, 3), (5, .invokestatic 83, 3), (8, .istore_n 3, 1), (9, .iload_n 3, 1), (10, .bipush (-9), 2), (12, .if_icmp .eq 19, 3), (15, .aload_n 0, 1)], [(16, .getfield 25, 3), (19, .ifCond .gt 12, 3), (22, .aload_n 0, 1), (23, .getfield 18, 3), (26, .bipush 6, 2), (28, .if_icmp .lt 5, 3), (31, .iload_n 2, 1)], [(32, .ireturn, 1), (33, .aload_n 1, 1), (34, .iload_n 2, 1), (35, .iconst 1, 1), (36, .iadd, 1), (37, .iconst 4, 1), (38, .invokestatic 70, 3), (41, .ifCond .ne 7, 3), (44, .iload_n 2, 1), (45, .iconst 1, 1), (46, .iadd, 1), (47, .ireturn, 1)], [(48, .aload_n 0, 1), (49, .getfield 15, 3), (52, .aload_n 0, 1), (53, .getfield 18, 3), (56, .iconst 4, 1), (57, .iload_n 3, 1), (58, .imul, 1), (59, .aload_n 1, 1), (60, .iload_n 2, 1), (61, .iconst 1, 1), (62, .iadd, 1), (63, .invokevirtual 67, 3)], [(66, .iadd, 1), (67, .bipush 48, 2), (69, .isub, 1), (70, .iastore, 1), (71, .aload_n 0, 1), (72, .dup, 1), (73, .getfield 18, 3), (76, .iconst 1, 1), (77, .iadd, 1), (78, .putfield 18, 3)], [(81, .bipush (-9), 2), (83, .ireturn, 1)]]
def xt_68 : xI := [[(0, .aload_n 0, 1), (1, .getfield 18, 3), (4, .ifCond .eq 12, 3), (7, .aload_n 0, 1), (8, .getfield 25, 3), (11, .bipush 8, 2), (13, .if_icmp .lt 5, 3)], [(16, .iload_n 2, 1), (17, .ireturn, 1), (18, .iconst 0, 1), (19, .istore_n 3, 1), (20, .iload_n 3, 1), (21, .iconst 2, 1), (22, .if_icmp .ge 52, 3), (25, .iload_n 2, 1), (26, .iconst 1, 1), (27, .iadd, 1), (28, .iload_n 3, 1), (29, .iadd, 1), (30, .istore 4, 2)], [(32, .aload_n 1, 1), (33, .iload 4, 2), (35, .bipush 6, 2), (37, .invokestatic 70, 3), (40, .ifCond .ne 6, 3), (43, .iload 4, 2), (45, .ireturn, 1), (46, .aload_n 0, 1), (47, .getfield 22, 3)], [(50, .iconst 2, 1), (51, .aload_n 0, 1), (52, .getfield 25, 3), (55, .imul, 1), (56, .iload_n 3, 1), (57, .iadd, 1), (58, .aload_n 1, 1), (59, .iload 4, 2), (61, .invokevirtual 67, 3)], [(64, .bipush 48, 2), (66, .isub, 1), (67, .iastore, 1), (68, .iinc 3 1, 3), (71, .goto (-51), 3), (74, .aload_n 0, 1), (75, .dup, 1), (76, .getfield 25, 3), (79, .iconst 1, 1)], [(80, .iadd, 1), (81, .putfield 25, 3), (84, .bipush (-9), 2), (86, .ireturn, 1)]]
def xt_69 : xI := [[(0, .iconst 0, 1), (1, .istore_n 1, 1), (2, .iload_n 1, 1), (3, .bipush 6, 2), (5, .if_icmp .ge 20, 3), (8, .getstatic 86, 3), (11, .iload_n 1, 1), (12, .iaload, 1), (13, .iload_n 0, 1), (14, .if_icmp .ne 5, 3)], [(17, .iload_n 1, 1), (18, .ireturn, 1), (19, .iinc 1 1, 3), (22, .goto (-20), 3), (25, .bipush (-9), 2), (27, .ireturn, 1)]]
def xt_70 : xI := [[(0, .iload_n 1, 1), (1, .istore_n 2, 1), (2, .iload_n 2, 1), (3, .aload_n 0, 1), (4, .invokevirtual 61, 3), (7, .if_icmp .ge 19, 3), (10, .aload_n 0, 1), (11, .iload_n 2, 1), (12, .invokevirtual 67, 3), (15, .bipush 32, 2)], [(17, .if_icmp .ne 9, 3), (20, .iinc 2 1, 3), (23, .goto (-21), 3), (26, .iload_n 2, 1), (27, .ireturn, 1)]]
def xt_71 : xI := [[(0, .aload_n 0, 1), (1, .iload_n 1, 1), (2, .invokevirtual 89, 3), (5, .ifCond .eq 29, 3), (8, .aload_n 0, 1), (9, .iload_n 1, 1), (10, .invokevirtual 67, 3), (13, .bipush 48, 2), (15, .if_icmp .lt 19, 3)], [(18, .aload_n 0, 1), (19, .iload_n 1, 1), (20, .invokevirtual 67, 3), (23, .bipush 48, 2), (25, .iload_n 2, 1), (26, .iadd, 1), (27, .if_icmp .ge 7, 3), (30, .iconst 1, 1), (31, .goto 4, 3)], [(34, .iconst 0, 1), (35, .ireturn, 1)]]
def xt_72 : xI := [[(0, .aload_n 0, 1), (1, .iload_n 1, 1), (2, .iload_n 2, 1), (3, .invokespecial 3, 3), (6, .return_, 1)]]
def xt_73 : xI := [[(0, .iload_n 1, 1), (1, .invokestatic 9, 3), (4, .ifCond .eq 7, 3), (7, .iconst (-1), 1), (8, .goto 4, 3), (11, .iload_n 1, 1), (12, .ireturn, 1)]]
def xt_74 : xI := [[(0, .iload_n 1, 1), (1, .iconst 2, 1), (2, .if_icmp .eq 11, 3), (5, .aload_n 0, 1), (6, .iload_n 1, 1), (7, .invokespecial 15, 3), (10, .ifCond .eq 7, 3), (13, .iconst 1, 1), (14, .goto 4, 3)], [(17, .iconst 0, 1), (18, .ireturn, 1)]]
def xt_75 : xI := [[(0, .aload_n 0, 1), (1, .iload_n 1, 1), (2, .iload_n 2, 1), (3, .invokespecial 1, 3), (6, .return_, 1)]]
def xt_76 : xI := [[(0, .iconst 1, 1), (1, .ireturn, 1)]]
def xt_77 : xI := [[(0, .aload_n 0, 1), (1, .invokespecial 1, 3), (4, .aload_n 0, 1), (5, .bipush 6, 2), (7, .anewarray 9, 3), (10, .putfield 11, 3), (13, .aload_n 0, 1), (14, .iconst 4, 1), (15, .anewarray 9, 3)], [(18, .putfield 15, 3), (21, .aload_n 0, 1), (22, .bipush 24, 2), (24, .anewarray 18, 3), (27, .putfield 20, 3), (30, .aload_n 0, 1), (31, .new 24, 3)], [(34, .dup, 1), (35, .invokespecial 26, 3), (38, .putfield 27, 3), (41, .aload_n 0, 1), (42, .iconst 3, 1), (43, .anewarray 24, 3), (46, .putfield 31, 3)], [(49, .aload_n 0, 1), (50, .new 35, 3), (53, .dup, 1), (54, .invokespecial 37, 3), (57, .putfield 38, 3), (60, .aload_n 0, 1), (61, .new 35, 3)], [(64, .dup, 1), (65, .invokespecial 37, 3), (68, .putfield 42, 3), (71, .aload_n 0, 1), (72, .new 9, 3), (75, .dup, 1), (76, .bipush 12, 2), (78, .invokespecial 45, 3)], [(81, .putfield 48, 3), (84, .aload_n 0, 1), (85, .bipush 6, 2), (87, .newarray .int, 2), (89, .putfield 52, 3), (92, .aload_n 0, 1), (93, .bipush 6, 2), (95, .newarray .int, 2)], [(97, .putfield 56, 3), (100, .aload_n 0, 1), (101, .new 59, 3), (104, .dup, 1), (105, .invokespecial 61, 3), (108, .putfield 62, 3), (111, .aload_n 0, 1)], [(112, .iconst 0, 1), (113, .putfield 66, 3), (116, .aload_n 0, 1), (117, .lconst 0, 1), (118, .putfield 70, 3), (121, .aload_n 0, 1), (122, .lconst 1, 1), (123, .putfield 74, 3), (126, .aload_n 0, 1), (127, .iconst 0, 1)], [(128, .putfield 77, 3), (131, .aload_n 0, 1), (132, .bipush 6, 2), (134, .newarray .int, 2), (136, .putfield 80, 3), (139, .iconst 0, 1), (140, .istore_n 1, 1), (141, .iload_n 1, 1), (142, .bipush 6, 2)], [(144, .if_icmp .ge 24, 3), (147, .aload_n 0, 1), (148, .getfield 11, 3), (151, .iload_n 1, 1), (152, .new 9, 3), (155, .dup, 1), (156, .bipush 40, 2), (158, .invokespecial 45, 3)], [(161, .aastore, 1), (162, .iinc 1 1, 3), (165, .goto (-24), 3), (168, .iconst 0, 1), (169, .istore_n 1, 1), (170, .iload_n 1, 1), (171, .iconst 4, 1), (172, .if_icmp .ge 24, 3), (175, .aload_n 0, 1)], [(176, .getfield 15, 3), (179, .iload_n 1, 1), (180, .new 9, 3), (183, .dup, 1), (184, .bipush 60, 2), (186, .invokespecial 45, 3), (189, .aastore, 1), (190, .iinc 1 1, 3)], [(193, .goto (-23), 3), (196, .iconst 0, 1), (197, .istore_n 1, 1), (198, .iload_n 1, 1), (199, .bipush 24, 2), (201, .if_icmp .ge 24, 3), (204, .aload_n 0, 1), (205, .getfield 20, 3)], [(208, .iload_n 1, 1), (209, .iload_n 1, 1), (210, .iconst 4, 1), (211, .idiv, 1), (212, .iload_n 1, 1), (213, .iconst 4, 1), (214, .irem, 1), (215, .invokestatic 83, 3), (218, .aastore, 1), (219, .iinc 1 1, 3), (222, .goto (-24), 3)], [(225, .iconst 0, 1), (226, .istore_n 1, 1), (227, .iload_n 1, 1), (228, .iconst 3, 1), (229, .if_icmp .ge 31, 3), (232, .aload_n 0, 1), (233, .getfield 31, 3), (236, .iload_n 1, 1), (237, .new 24, 3)], [(240, .dup, 1), (241, .invokespecial 26, 3), (244, .aastore, 1), (245, .aload_n 0, 1), (246, .getfield 31, 3), (249, .iload_n 1, 1), (250, .aaload, 1), (251, .invokevirtual 87, 3), (254, .iinc 1 1, 3)], [(257, .goto (-30), 3), (260, .return_, 1)]]
def xt_78 : xI := [[(0, .iload_n 1, 1), (1, .invokestatic 90, 3), (4, .ifCond .eq 9, 3), (7, .iload_n 2, 1), (8, .bipush 40, 2), (10, .if_icmp .le 5, 3), (13, .iconst (-1), 1), (14, .ireturn, 1), (15, .iload_n 2, 1)], [(16, .ifCond .ge 9, 3), (19, .aload_n 0, 1), (20, .iconst 5, 1), (21, .invokevirtual 94, 3), (24, .ireturn, 1), (25, .aload_n 0, 1), (26, .getfield 11, 3), (29, .iload_n 1, 1), (30, .aaload, 1), (31, .iload_n 2, 1)], [(32, .iconst 0, 1), (33, .invokevirtual 98, 3), (36, .iload_n 2, 1), (37, .ireturn, 1)]]
def xt_79 : xI := [[(0, .iload_n 1, 1), (1, .invokestatic 90, 3), (4, .ifCond .ne 5, 3), (7, .iconst (-1), 1), (8, .ireturn, 1), (9, .aload_n 0, 1), (10, .getfield 11, 3), (13, .iload_n 1, 1), (14, .aaload, 1), (15, .iload_n 2, 1)], [(16, .invokestatic 102, 3), (19, .istore 4, 2), (21, .iload 4, 2), (23, .ifCond .eq 10, 3), (26, .aload_n 0, 1), (27, .iload 4, 2), (29, .invokevirtual 94, 3)], [(32, .ireturn, 1), (33, .aload_n 0, 1), (34, .aload_n 0, 1), (35, .getfield 11, 3), (38, .iload_n 1, 1), (39, .aaload, 1), (40, .iload_n 2, 1), (41, .invokevirtual 106, 3), (44, .putfield 66, 3), (47, .aload_n 0, 1)], [(48, .getfield 11, 3), (51, .iload_n 1, 1), (52, .aaload, 1), (53, .iload_n 2, 1), (54, .iload_n 3, 1), (55, .invokevirtual 109, 3), (58, .iconst 1, 1), (59, .ireturn, 1)]]
def xt_80 : xI := [[(0, .iload_n 1, 1), (1, .invokestatic 90, 3), (4, .ifCond .ne 5, 3), (7, .iconst (-1), 1), (8, .ireturn, 1), (9, .aload_n 0, 1), (10, .getfield 11, 3), (13, .iload_n 1, 1), (14, .aaload, 1), (15, .iload_n 2, 1)], [(16, .invokestatic 102, 3), (19, .istore_n 3, 1), (20, .iload_n 3, 1), (21, .ifCond .eq 9, 3), (24, .aload_n 0, 1), (25, .iload_n 3, 1), (26, .invokevirtual 94, 3), (29, .ireturn, 1), (30, .aload_n 0, 1), (31, .aload_n 0, 1)], [(32, .getfield 11, 3), (35, .iload_n 1, 1), (36, .aaload, 1), (37, .iload_n 2, 1), (38, .invokevirtual 106, 3), (41, .putfield 66, 3), (44, .iconst 1, 1), (45, .ireturn, 1)]]
def xt_81 : xI := [[(0, .iload_n 1, 1), (1, .invokestatic 90, 3), (4, .ifCond .ne 5, 3), (7, .iconst (-1), 1), (8, .ireturn, 1), (9, .aload_n 0, 1), (10, .getfield 11, 3), (13, .iload_n 1, 1), (14, .aaload, 1), (15, .invokevirtual 112, 3)], [(18, .ifCond .eq 9, 3), (21, .aload_n 0, 1), (22, .iconst 1, 1), (23, .invokevirtual 94, 3), (26, .ireturn, 1), (27, .aload_n 0, 1), (28, .getfield 11, 3), (31, .iload_n 1, 1)], [(32, .aaload, 1), (33, .invokevirtual 116, 3), (36, .iconst 1, 1), (37, .ireturn, 1)]]
def xt_82 : xI := [[(0, .iload_n 1, 1), (1, .invokestatic 90, 3), (4, .ifCond .eq 10, 3), (7, .iload_n 3, 1), (8, .invokestatic 90, 3), (11, .ifCond .ne 5, 3), (14, .iconst (-1), 1), (15, .ireturn, 1)], [(16, .iload 5, 2), (18, .ifCond .ge 9, 3), (21, .aload_n 0, 1), (22, .iconst 5, 1), (23, .invokevirtual 94, 3), (26, .ireturn, 1), (27, .aload_n 0, 1), (28, .getfield 11, 3), (31, .iload_n 1, 1)], [(32, .aaload, 1), (33, .invokevirtual 112, 3), (36, .ifCond .ne 15, 3), (39, .aload_n 0, 1), (40, .getfield 11, 3), (43, .iload_n 3, 1), (44, .aaload, 1), (45, .invokevirtual 112, 3)], [(48, .ifCond .eq 9, 3), (51, .aload_n 0, 1), (52, .iconst 1, 1), (53, .invokevirtual 94, 3), (56, .ireturn, 1), (57, .aload_n 0, 1), (58, .getfield 11, 3), (61, .iload_n 1, 1), (62, .aaload, 1), (63, .iload_n 2, 1)], [(64, .iload 5, 2), (66, .invokevirtual 117, 3), (69, .ifCond .eq 19, 3), (72, .aload_n 0, 1), (73, .getfield 11, 3), (76, .iload_n 3, 1), (77, .aaload, 1), (78, .iload 4, 2)], [(80, .iload 5, 2), (82, .invokevirtual 117, 3), (85, .ifCond .ne 9, 3), (88, .aload_n 0, 1), (89, .iconst 2, 1), (90, .invokevirtual 94, 3), (93, .ireturn, 1), (94, .aload_n 0, 1), (95, .getfield 11, 3)], [(98, .iload_n 3, 1), (99, .aaload, 1), (100, .aload_n 0, 1), (101, .getfield 11, 3), (104, .iload_n 1, 1), (105, .aaload, 1), (106, .iload_n 2, 1), (107, .iload 4, 2), (109, .iload 5, 2), (111, .invokevirtual 121, 3)], [(114, .iconst 1, 1), (115, .ireturn, 1)]]
def xt_83 : xI := [[(0, .iload_n 1, 1), (1, .invokestatic 90, 3), (4, .ifCond .ne 5, 3), (7, .iconst (-1), 1), (8, .ireturn, 1), (9, .aload_n 0, 1), (10, .getfield 11, 3), (13, .iload_n 1, 1), (14, .aaload, 1), (15, .astore_n 2, 1)], [(16, .aload_n 2, 1), (17, .invokevirtual 112, 3), (20, .ifCond .eq 9, 3), (23, .aload_n 0, 1), (24, .iconst 1, 1), (25, .invokevirtual 94, 3), (28, .ireturn, 1), (29, .aload_n 2, 1), (30, .invokevirtual 125, 3)], [(33, .istore_n 3, 1), (34, .iload_n 3, 1), (35, .ifCond .ne 9, 3), (38, .aload_n 0, 1), (39, .iconst 4, 1), (40, .invokevirtual 94, 3), (43, .ireturn, 1), (44, .lconst 0, 1), (45, .lstore 4, 2), (47, .iconst 0, 1)], [(48, .istore 6, 2), (50, .iload 6, 2), (52, .iload_n 3, 1), (53, .if_icmp .ge 21, 3), (56, .lload 4, 2), (58, .aload_n 2, 1), (59, .iload 6, 2), (61, .invokevirtual 106, 3)], [(64, .i2l, 1), (65, .ladd, 1), (66, .lstore 4, 2), (68, .iinc 6 1, 3), (71, .goto (-21), 3), (74, .aload_n 0, 1), (75, .lload 4, 2), (77, .iload_n 3, 1), (78, .i2l, 1), (79, .ldiv, 1)], [(80, .l2i, 1), (81, .putfield 66, 3), (84, .iconst 1, 1), (85, .ireturn, 1)]]
def xt_84 : xI := [[(0, .iload_n 1, 1), (1, .invokestatic 129, 3), (4, .ifCond .eq 9, 3), (7, .iload_n 2, 1), (8, .bipush 60, 2), (10, .if_icmp .le 5, 3), (13, .iconst (-1), 1), (14, .ireturn, 1), (15, .iload_n 2, 1)], [(16, .ifCond .ge 9, 3), (19, .aload_n 0, 1), (20, .iconst 5, 1), (21, .invokevirtual 94, 3), (24, .ireturn, 1), (25, .aload_n 0, 1), (26, .getfield 15, 3), (29, .iload_n 1, 1), (30, .aaload, 1), (31, .iload_n 2, 1)], [(32, .bipush 32, 2), (34, .invokevirtual 98, 3), (37, .iload_n 2, 1), (38, .ireturn, 1)]]
def xt_85 : xI := [[(0, .iload_n 1, 1), (1, .invokestatic 129, 3), (4, .ifCond .ne 5, 3), (7, .iconst (-1), 1), (8, .ireturn, 1), (9, .aload_n 0, 1), (10, .getfield 15, 3), (13, .iload_n 1, 1), (14, .aaload, 1), (15, .iload_n 2, 1)], [(16, .invokestatic 102, 3), (19, .istore 4, 2), (21, .iload 4, 2), (23, .ifCond .eq 10, 3), (26, .aload_n 0, 1), (27, .iload 4, 2), (29, .invokevirtual 94, 3)], [(32, .ireturn, 1), (33, .aload_n 0, 1), (34, .getfield 15, 3), (37, .iload_n 1, 1), (38, .aaload, 1), (39, .iload_n 2, 1), (40, .invokevirtual 106, 3), (43, .istore 5, 2), (45, .aload_n 0, 1), (46, .getfield 15, 3)], [(49, .iload_n 1, 1), (50, .aaload, 1), (51, .iload_n 2, 1), (52, .iload_n 3, 1), (53, .i2b, 1), (54, .invokevirtual 109, 3), (57, .iload 5, 2), (59, .sipush 1000, 3), (62, .iadd, 1), (63, .ireturn, 1)]]
def xt_86 : xI := [[(0, .iload_n 1, 1), (1, .invokestatic 129, 3), (4, .ifCond .ne 5, 3), (7, .iconst (-1), 1), (8, .ireturn, 1), (9, .aload_n 0, 1), (10, .getfield 15, 3), (13, .iload_n 1, 1), (14, .aaload, 1), (15, .invokevirtual 112, 3)], [(18, .ifCond .eq 9, 3), (21, .aload_n 0, 1), (22, .iconst 1, 1), (23, .invokevirtual 94, 3), (26, .ireturn, 1), (27, .aload_n 0, 1), (28, .getfield 42, 3), (31, .aload_n 0, 1)], [(32, .getfield 15, 3), (35, .iload_n 1, 1), (36, .aaload, 1), (37, .invokevirtual 132, 3), (40, .ireturn, 1)]]
def xt_87 : xI := [[(0, .iload_n 1, 1), (1, .invokestatic 129, 3), (4, .ifCond .ne 5, 3), (7, .iconst (-1), 1), (8, .ireturn, 1), (9, .aload_n 0, 1), (10, .getfield 15, 3), (13, .iload_n 1, 1), (14, .aaload, 1), (15, .invokevirtual 112, 3)], [(18, .ifCond .eq 9, 3), (21, .aload_n 0, 1), (22, .iconst 1, 1), (23, .invokevirtual 94, 3), (26, .ireturn, 1), (27, .aload_n 0, 1), (28, .getfield 42, 3), (31, .aload_n 0, 1)], [(32, .getfield 15, 3), (35, .iload_n 1, 1), (36, .aaload, 1), (37, .invokevirtual 132, 3), (40, .bipush (-9), 2), (42, .if_icmp .eq 6, 3), (45, .bipush (-4), 2), (47, .ireturn, 1)], [(48, .aload_n 0, 1), (49, .getfield 38, 3), (52, .astore_n 2, 1), (53, .aload_n 0, 1), (54, .aload_n 0, 1), (55, .getfield 42, 3), (58, .putfield 38, 3), (61, .aload_n 0, 1), (62, .aload_n 2, 1), (63, .putfield 42, 3)], [(66, .aload_n 0, 1), (67, .getfield 27, 3), (70, .iconst 0, 1), (71, .invokevirtual 136, 3), (74, .iconst 0, 1), (75, .istore_n 3, 1), (76, .iload_n 3, 1), (77, .iconst 3, 1), (78, .if_icmp .ge 18, 3)], [(81, .aload_n 0, 1), (82, .getfield 31, 3), (85, .iload_n 3, 1), (86, .aaload, 1), (87, .invokevirtual 87, 3), (90, .iinc 3 1, 3), (93, .goto (-17), 3)], [(96, .aload_n 0, 1), (97, .getfield 38, 3), (100, .invokevirtual 139, 3), (103, .ireturn, 1)]]
def xt_88 : xI := [[(0, .aload_n 0, 1), (1, .iload_n 1, 1), (2, .invokevirtual 142, 3), (5, .ifCond .eq 12, 3), (8, .iload_n 2, 1), (9, .ifCond .lt 8, 3), (12, .iload_n 2, 1), (13, .iconst 3, 1), (14, .if_icmp .le 5, 3)], [(17, .iconst (-1), 1), (18, .ireturn, 1), (19, .aload_n 0, 1), (20, .aload_n 0, 1), (21, .iload_n 1, 1), (22, .iload_n 2, 1), (23, .invokevirtual 145, 3), (26, .putfield 66, 3), (29, .iconst 1, 1), (30, .ireturn, 1)]]
def xt_89 : xI := [[(0, .aload_n 0, 1), (1, .iload_n 1, 1), (2, .invokevirtual 142, 3), (5, .ifCond .eq 13, 3), (8, .iload_n 2, 1), (9, .iconst 1, 1), (10, .if_icmp .lt 8, 3), (13, .iload_n 2, 1), (14, .iconst 5, 1), (15, .if_icmp .le 5, 3)], [(18, .iconst (-1), 1), (19, .ireturn, 1), (20, .aload_n 0, 1), (21, .iload_n 1, 1), (22, .invokevirtual 149, 3), (25, .astore_n 3, 1), (26, .aload_n 0, 1), (27, .getfield 27, 3), (30, .invokevirtual 153, 3)], [(33, .istore 4, 2), (35, .aload_n 3, 1), (36, .iload_n 2, 1), (37, .invokevirtual 154, 3), (40, .ifCond .ne 9, 3), (43, .aload_n 0, 1), (44, .iconst 3, 1), (45, .invokevirtual 94, 3)], [(48, .ireturn, 1), (49, .iload_n 2, 1), (50, .tableswitch 84 1 4 #[30, 57, 63, 78], 30)], [], [(80, .aload_n 3, 1), (81, .invokevirtual 157, 3), (84, .ifCond .ne 8, 3), (87, .bipush (-9), 2), (89, .goto 17, 3), (92, .aload_n 0, 1), (93, .getfield 38, 3)], [(96, .aload_n 3, 1), (97, .aload_n 0, 1), (98, .getfield 27, 3), (101, .iload 4, 2), (103, .invokevirtual 160, 3), (106, .ireturn, 1), (107, .aload_n 0, 1), (108, .aload_n 3, 1), (109, .invokevirtual 164, 3)], [(112, .ireturn, 1), (113, .aload_n 0, 1), (114, .getfield 38, 3), (117, .aload_n 3, 1), (118, .iload 4, 2), (120, .iconst 0, 1), (121, .invokevirtual 168, 3), (124, .invokestatic 172, 3), (127, .ireturn, 1)], [(128, .iload 4, 2), (130, .invokestatic 177, 3), (133, .ireturn, 1), (134, .aload_n 0, 1), (135, .getfield 38, 3), (138, .aload_n 3, 1), (139, .iload 4, 2), (141, .iconst 0, 1), (142, .invokevirtual 182, 3)], [(145, .ireturn, 1)]]
def xt_90 : xI := [[(0, .iload_n 1, 1), (1, .invokestatic 185, 3), (4, .ifCond .eq 14, 3), (7, .aload_n 0, 1), (8, .getfield 38, 3), (11, .iload_n 1, 1), (12, .invokevirtual 188, 3), (15, .goto 4, 3)], [(18, .iconst (-1), 1), (19, .ireturn, 1)]]
def xt_91 : xI := [[(0, .iload_n 1, 1), (1, .ifCond .lt 23, 3), (4, .iload_n 1, 1), (5, .aload_n 0, 1), (6, .getfield 38, 3), (9, .invokevirtual 191, 3), (12, .if_icmp .ge 12, 3), (15, .iload_n 2, 1)], [(16, .ifCond .lt 8, 3), (19, .iload_n 2, 1), (20, .iconst 1, 1), (21, .if_icmp .le 5, 3), (24, .iconst (-1), 1), (25, .ireturn, 1), (26, .aload_n 0, 1), (27, .getfield 38, 3), (30, .iload_n 1, 1), (31, .iload_n 2, 1)], [(32, .invokevirtual 194, 3), (35, .ireturn, 1)]]
def xt_92 : xI := [[(0, .aload_n 0, 1), (1, .iload_n 1, 1), (2, .invokevirtual 142, 3), (5, .ifCond .eq 10, 3), (8, .iload_n 2, 1), (9, .invokestatic 185, 3), (12, .ifCond .ne 5, 3), (15, .iconst (-1), 1)], [(16, .ireturn, 1), (17, .aload_n 0, 1), (18, .getfield 27, 3), (21, .invokevirtual 153, 3), (24, .bipush 40, 2), (26, .if_icmp .lt 6, 3), (29, .bipush (-2), 2), (31, .ireturn, 1)], [(32, .aload_n 0, 1), (33, .iload_n 1, 1), (34, .iload_n 2, 1), (35, .invokevirtual 197, 3), (38, .ireturn, 1)]]
def xt_93 : xI := [[(0, .iload_n 1, 1), (1, .ifCond .lt 23, 3), (4, .iload_n 1, 1), (5, .aload_n 0, 1), (6, .getfield 27, 3), (9, .invokevirtual 153, 3), (12, .if_icmp .ge 12, 3), (15, .iload_n 2, 1)], [(16, .ifCond .lt 8, 3), (19, .iload_n 2, 1), (20, .iconst 3, 1), (21, .if_icmp .le 5, 3), (24, .iconst (-1), 1), (25, .ireturn, 1), (26, .aload_n 0, 1), (27, .aload_n 0, 1), (28, .getfield 27, 3), (31, .iload_n 1, 1)], [(32, .iload_n 2, 1), (33, .invokevirtual 200, 3), (36, .putfield 66, 3), (39, .iconst 1, 1), (40, .ireturn, 1)]]
def xt_94 : xI := [[(0, .aload_n 0, 1), (1, .aload_n 0, 1), (2, .getfield 27, 3), (5, .invokevirtual 203, 3), (8, .putfield 66, 3), (11, .aload_n 0, 1), (12, .getfield 27, 3), (15, .iconst 0, 1)], [(16, .invokevirtual 206, 3), (19, .ireturn, 1)]]
def xt_95 : xI := [[(0, .aload_n 0, 1), (1, .getfield 27, 3), (4, .invokevirtual 153, 3), (7, .istore_n 2, 1), (8, .iload_n 1, 1), (9, .ifCond .lt 8, 3), (12, .iload_n 1, 1), (13, .iload_n 2, 1), (14, .if_icmp .le 5, 3)], [(17, .iconst (-1), 1), (18, .ireturn, 1), (19, .aload_n 0, 1), (20, .getfield 27, 3), (23, .iload_n 1, 1), (24, .invokevirtual 136, 3), (27, .iload_n 2, 1), (28, .iload_n 1, 1), (29, .isub, 1), (30, .ireturn, 1)]]
def xt_96 : xI := [[(0, .iload_n 1, 1), (1, .invokestatic 209, 3), (4, .ifCond .ne 5, 3), (7, .iconst (-1), 1), (8, .ireturn, 1), (9, .aload_n 0, 1), (10, .getfield 38, 3), (13, .invokevirtual 139, 3)], [(16, .ifCond .ne 6, 3), (19, .bipush (-4), 2), (21, .ireturn, 1), (22, .aload_n 0, 1), (23, .getfield 31, 3), (26, .iload_n 1, 1), (27, .aaload, 1), (28, .aload_n 0, 1), (29, .getfield 27, 3)], [(32, .invokevirtual 212, 3), (35, .aload_n 0, 1), (36, .getfield 27, 3), (39, .invokevirtual 153, 3), (42, .ireturn, 1)]]
def xt_97 : xI := [[(0, .iload_n 1, 1), (1, .invokestatic 209, 3), (4, .ifCond .ne 5, 3), (7, .iconst (-1), 1), (8, .ireturn, 1), (9, .aload_n 0, 1), (10, .getfield 31, 3), (13, .iload_n 1, 1), (14, .aaload, 1), (15, .invokevirtual 216, 3)], [(18, .ifCond .eq 9, 3), (21, .aload_n 0, 1), (22, .iconst 1, 1), (23, .invokevirtual 94, 3), (26, .ireturn, 1), (27, .aload_n 0, 1), (28, .getfield 27, 3), (31, .aload_n 0, 1)], [(32, .getfield 31, 3), (35, .iload_n 1, 1), (36, .aaload, 1), (37, .invokevirtual 212, 3), (40, .aload_n 0, 1), (41, .getfield 27, 3), (44, .invokevirtual 153, 3), (47, .ireturn, 1)]]
def xt_98 : xI := [[(0, .aload_n 0, 1), (1, .iload_n 1, 1), (2, .invokevirtual 142, 3), (5, .ifCond .eq 17, 3), (8, .iload_n 2, 1), (9, .invokestatic 90, 3), (12, .ifCond .eq 10, 3), (15, .iload_n 3, 1)], [(16, .invokestatic 90, 3), (19, .ifCond .ne 5, 3), (22, .iconst (-1), 1), (23, .ireturn, 1), (24, .aload_n 0, 1), (25, .getfield 11, 3), (28, .iload_n 2, 1), (29, .aaload, 1), (30, .bipush 12, 2)], [(32, .invokestatic 217, 3), (35, .istore 4, 2), (37, .iload 4, 2), (39, .ifCond .eq 10, 3), (42, .aload_n 0, 1), (43, .iload 4, 2), (45, .invokevirtual 94, 3)], [(48, .ireturn, 1), (49, .aload_n 0, 1), (50, .getfield 48, 3), (53, .aload_n 0, 1), (54, .getfield 11, 3), (57, .iload_n 2, 1), (58, .aaload, 1), (59, .invokevirtual 220, 3), (62, .aload_n 0, 1), (63, .iload_n 1, 1)], [(64, .invokevirtual 149, 3), (67, .astore 5, 2), (69, .aload_n 0, 1), (70, .getfield 48, 3), (73, .invokevirtual 125, 3), (76, .istore 6, 2), (78, .aload_n 0, 1), (79, .getfield 11, 3)], [(82, .iload_n 3, 1), (83, .aaload, 1), (84, .iload 6, 2), (86, .iconst 0, 1), (87, .invokevirtual 98, 3), (90, .iconst 0, 1), (91, .istore 7, 2), (93, .iload 7, 2), (95, .iload 6, 2)], [(97, .if_icmp .ge 35, 3), (100, .aload_n 0, 1), (101, .getfield 11, 3), (104, .iload_n 3, 1), (105, .aaload, 1), (106, .iload 7, 2), (108, .aload_n 0, 1), (109, .getfield 38, 3)], [(112, .aload 5, 2), (114, .aload_n 0, 1), (115, .getfield 48, 3), (118, .iload 7, 2), (120, .invokevirtual 160, 3), (123, .invokevirtual 109, 3), (126, .iinc 7 1, 3)], [(129, .goto (-36), 3), (132, .iload 6, 2), (134, .ireturn, 1)]]
def xt_99 : xI := [[(0, .aload_n 0, 1), (1, .iload_n 1, 1), (2, .invokevirtual 142, 3), (5, .ifCond .eq 10, 3), (8, .iload_n 2, 1), (9, .invokestatic 90, 3), (12, .ifCond .ne 5, 3), (15, .iconst (-1), 1)], [(16, .ireturn, 1), (17, .aload_n 0, 1), (18, .getfield 11, 3), (21, .iload_n 2, 1), (22, .aaload, 1), (23, .bipush 12, 2), (25, .invokestatic 217, 3), (28, .istore_n 3, 1), (29, .iload_n 3, 1), (30, .ifCond .eq 9, 3)], [(33, .aload_n 0, 1), (34, .iload_n 3, 1), (35, .invokevirtual 94, 3), (38, .ireturn, 1), (39, .aload_n 0, 1), (40, .iload_n 1, 1), (41, .invokevirtual 149, 3), (44, .astore 4, 2), (46, .bipush (-9), 2)], [(48, .istore 5, 2), (50, .iconst 0, 1), (51, .istore 6, 2), (53, .iconst 0, 1), (54, .istore 7, 2), (56, .iload 7, 2), (58, .aload_n 0, 1), (59, .getfield 11, 3), (62, .iload_n 2, 1), (63, .aaload, 1)], [(64, .invokevirtual 125, 3), (67, .if_icmp .ge 66, 3), (70, .aload_n 0, 1), (71, .getfield 38, 3), (74, .aload_n 0, 1), (75, .getfield 11, 3), (78, .iload_n 2, 1), (79, .aaload, 1)], [(80, .iload 7, 2), (82, .invokevirtual 106, 3), (85, .aload_n 0, 1), (86, .getfield 38, 3), (89, .aload 4, 2), (91, .aload_n 0, 1), (92, .getfield 11, 3), (95, .iload_n 2, 1)], [(96, .aaload, 1), (97, .iload 7, 2), (99, .invokevirtual 160, 3), (102, .invokevirtual 223, 3), (105, .ifCond .eq 22, 3), (108, .iload 5, 2), (110, .bipush (-9), 2)], [(112, .if_icmp .ne 8, 3), (115, .iload 7, 2), (117, .goto 5, 3), (120, .iload 5, 2), (122, .istore 5, 2), (124, .iinc 6 1, 3), (127, .iinc 7 1, 3)], [(130, .goto (-74), 3), (133, .aload_n 0, 1), (134, .iload 6, 2), (136, .putfield 66, 3), (139, .iload 5, 2), (141, .ireturn, 1)]]
def xt_100 : xI := [[(0, .aload_n 0, 1), (1, .iload_n 1, 1), (2, .invokevirtual 142, 3), (5, .ifCond .eq 10, 3), (8, .iload_n 2, 1), (9, .invokestatic 90, 3), (12, .ifCond .ne 5, 3), (15, .iconst (-1), 1)], [(16, .ireturn, 1), (17, .aload_n 0, 1), (18, .getfield 11, 3), (21, .iload_n 2, 1), (22, .aaload, 1), (23, .bipush 12, 2), (25, .invokestatic 217, 3), (28, .istore_n 3, 1), (29, .iload_n 3, 1), (30, .ifCond .eq 9, 3)], [(33, .aload_n 0, 1), (34, .iload_n 3, 1), (35, .invokevirtual 94, 3), (38, .ireturn, 1), (39, .aload_n 0, 1), (40, .iload_n 1, 1), (41, .invokevirtual 149, 3), (44, .astore 4, 2), (46, .iconst 0, 1), (47, .istore 5, 2)], [(49, .iconst 0, 1), (50, .istore 6, 2), (52, .iload 6, 2), (54, .aload_n 0, 1), (55, .getfield 11, 3), (58, .iload_n 2, 1), (59, .aaload, 1), (60, .invokevirtual 125, 3), (63, .if_icmp .ge 43, 3)], [(66, .aload_n 0, 1), (67, .getfield 11, 3), (70, .iload_n 2, 1), (71, .aaload, 1), (72, .iload 6, 2), (74, .invokevirtual 106, 3), (77, .aload_n 0, 1), (78, .getfield 38, 3)], [(81, .aload 4, 2), (83, .aload_n 0, 1), (84, .getfield 11, 3), (87, .iload_n 2, 1), (88, .aaload, 1), (89, .iload 6, 2), (91, .invokevirtual 160, 3), (94, .if_icmp .ne 6, 3)], [(97, .iinc 5 1, 3), (100, .iinc 6 1, 3), (103, .goto (-51), 3), (106, .iload 5, 2), (108, .ireturn, 1)]]
def xt_101 : xI := [[(0, .iload_n 1, 1), (1, .invokestatic 90, 3), (4, .ifCond .eq 10, 3), (7, .iload_n 2, 1), (8, .invokestatic 90, 3), (11, .ifCond .ne 5, 3), (14, .iconst (-1), 1), (15, .ireturn, 1)], [(16, .aload_n 0, 1), (17, .getfield 11, 3), (20, .iload_n 1, 1), (21, .aaload, 1), (22, .aload_n 0, 1), (23, .getfield 11, 3), (26, .iload_n 2, 1), (27, .aaload, 1), (28, .bipush 12, 2), (30, .invokestatic 226, 3)], [(33, .istore_n 3, 1), (34, .iload_n 3, 1), (35, .ifCond .eq 9, 3), (38, .aload_n 0, 1), (39, .iload_n 3, 1), (40, .invokevirtual 94, 3), (43, .ireturn, 1), (44, .bipush (-9), 2), (46, .istore 4, 2)], [(48, .iconst 0, 1), (49, .istore 5, 2), (51, .iconst 0, 1), (52, .istore 6, 2), (54, .iload 6, 2), (56, .aload_n 0, 1), (57, .getfield 11, 3), (60, .iload_n 1, 1), (61, .aaload, 1), (62, .invokevirtual 125, 3)], [(65, .if_icmp .ge 53, 3), (68, .aload_n 0, 1), (69, .getfield 11, 3), (72, .iload_n 1, 1), (73, .aaload, 1), (74, .iload 6, 2), (76, .invokevirtual 106, 3), (79, .aload_n 0, 1)], [(80, .getfield 11, 3), (83, .iload_n 2, 1), (84, .aaload, 1), (85, .iload 6, 2), (87, .invokevirtual 106, 3), (90, .if_icmp .eq 22, 3), (93, .iload 4, 2), (95, .bipush (-9), 2)], [(97, .if_icmp .ne 8, 3), (100, .iload 6, 2), (102, .goto 5, 3), (105, .iload 4, 2), (107, .istore 4, 2), (109, .iinc 5 1, 3)], [(112, .iinc 6 1, 3), (115, .goto (-61), 3), (118, .aload_n 0, 1), (119, .iload 4, 2), (121, .putfield 66, 3), (124, .iload 5, 2), (126, .ireturn, 1)]]
def xt_102 : xI := [[(0, .aload_n 0, 1), (1, .iload_n 1, 1), (2, .invokevirtual 142, 3), (5, .ifCond .eq 10, 3), (8, .iload_n 2, 1), (9, .invokestatic 90, 3), (12, .ifCond .ne 5, 3), (15, .iconst (-1), 1)], [(16, .ireturn, 1), (17, .aload_n 0, 1), (18, .getfield 11, 3), (21, .iload_n 2, 1), (22, .aaload, 1), (23, .bipush 6, 2), (25, .invokestatic 217, 3), (28, .istore_n 3, 1), (29, .iload_n 3, 1), (30, .ifCond .eq 9, 3)], [(33, .aload_n 0, 1), (34, .iload_n 3, 1), (35, .invokevirtual 94, 3), (38, .ireturn, 1), (39, .aload_n 0, 1), (40, .aload_n 0, 1), (41, .iload_n 1, 1), (42, .invokevirtual 149, 3), (45, .aload_n 0, 1), (46, .getfield 11, 3)], [(49, .iload_n 2, 1), (50, .aaload, 1), (51, .invokevirtual 230, 3), (54, .ifCond .eq 7, 3), (57, .lconst 1, 1), (58, .goto 4, 3), (61, .lconst 0, 1), (62, .lstore 4, 2)], [(64, .iconst 0, 1), (65, .istore 6, 2), (67, .iload 6, 2), (69, .aload_n 0, 1), (70, .getfield 11, 3), (73, .iload_n 2, 1), (74, .aaload, 1), (75, .invokevirtual 125, 3), (78, .if_icmp .ge 32, 3)], [(81, .iload 6, 2), (83, .bipush 6, 2), (85, .if_icmp .ge 25, 3), (88, .lload 4, 2), (90, .aload_n 0, 1), (91, .getfield 52, 3), (94, .iload 6, 2)], [(96, .iaload, 1), (97, .invokestatic 172, 3), (100, .i2l, 1), (101, .lmul, 1), (102, .lstore 4, 2), (104, .iinc 6 1, 3), (107, .goto (-40), 3), (110, .aload_n 0, 1), (111, .lload 4, 2)], [(113, .lconst 1, 1), (114, .invokevirtual 234, 3), (117, .iconst 1, 1), (118, .ireturn, 1)]]
def xt_103 : xI := [[(0, .aload_n 0, 1), (1, .iload_n 1, 1), (2, .invokevirtual 142, 3), (5, .ifCond .eq 17, 3), (8, .iload_n 2, 1), (9, .invokestatic 90, 3), (12, .ifCond .eq 10, 3), (15, .iload_n 3, 1)], [(16, .invokestatic 90, 3), (19, .ifCond .ne 5, 3), (22, .iconst (-1), 1), (23, .ireturn, 1), (24, .aload_n 0, 1), (25, .getfield 11, 3), (28, .iload_n 2, 1), (29, .aaload, 1), (30, .bipush 6, 2)], [(32, .invokestatic 217, 3), (35, .istore 4, 2), (37, .iload 4, 2), (39, .ifCond .eq 10, 3), (42, .aload_n 0, 1), (43, .iload 4, 2), (45, .invokevirtual 94, 3)], [(48, .ireturn, 1), (49, .aload_n 0, 1), (50, .aload_n 0, 1), (51, .iload_n 1, 1), (52, .invokevirtual 149, 3), (55, .aload_n 0, 1), (56, .getfield 11, 3), (59, .iload_n 2, 1), (60, .aaload, 1), (61, .invokevirtual 230, 3)], [(64, .ifCond .ne 6, 3), (67, .bipush (-9), 2), (69, .ireturn, 1), (70, .aload_n 0, 1), (71, .getfield 11, 3), (74, .iload_n 2, 1), (75, .aaload, 1), (76, .invokevirtual 125, 3), (79, .istore 5, 2)], [(81, .aload_n 0, 1), (82, .getfield 11, 3), (85, .iload_n 3, 1), (86, .aaload, 1), (87, .iload 5, 2), (89, .iconst 0, 1), (90, .invokevirtual 98, 3), (93, .iconst 0, 1), (94, .istore 6, 2)], [(96, .iload 6, 2), (98, .iload 5, 2), (100, .if_icmp .ge 37, 3), (103, .iload 6, 2), (105, .bipush 6, 2), (107, .if_icmp .ge 30, 3), (110, .aload_n 0, 1), (111, .getfield 11, 3)], [(114, .iload_n 3, 1), (115, .aaload, 1), (116, .iload 6, 2), (118, .aload_n 0, 1), (119, .getfield 52, 3), (122, .iload 6, 2), (124, .iaload, 1), (125, .invokestatic 238, 3)], [(128, .invokevirtual 109, 3), (131, .iinc 6 1, 3), (134, .goto (-38), 3), (137, .iload 5, 2), (139, .ireturn, 1)]]
def xt_104 : xI := [[(0, .aload_n 0, 1), (1, .iload_n 1, 1), (2, .invokevirtual 142, 3), (5, .ifCond .eq 14, 3), (8, .iload_n 2, 1), (9, .invokestatic 90, 3), (12, .ifCond .eq 7, 3), (15, .iload_n 3, 1)], [(16, .ifCond .ge 5, 3), (19, .iconst (-1), 1), (20, .ireturn, 1), (21, .aload_n 0, 1), (22, .getfield 11, 3), (25, .iload_n 2, 1), (26, .aaload, 1), (27, .bipush 6, 2), (29, .invokestatic 217, 3)], [(32, .istore 4, 2), (34, .iload 4, 2), (36, .ifCond .eq 10, 3), (39, .aload_n 0, 1), (40, .iload 4, 2), (42, .invokevirtual 94, 3), (45, .ireturn, 1), (46, .aload_n 0, 1), (47, .getfield 11, 3)], [(50, .iload_n 2, 1), (51, .aaload, 1), (52, .iload_n 3, 1), (53, .invokevirtual 241, 3), (56, .ifCond .eq 9, 3), (59, .iload_n 3, 1), (60, .bipush 6, 2), (62, .if_icmp .lt 5, 3)], [(65, .iconst (-1), 1), (66, .ireturn, 1), (67, .aload_n 0, 1), (68, .aload_n 0, 1), (69, .iload_n 1, 1), (70, .invokevirtual 149, 3), (73, .aload_n 0, 1), (74, .getfield 11, 3), (77, .iload_n 2, 1), (78, .aaload, 1), (79, .invokevirtual 230, 3)], [(82, .ifCond .eq 12, 3), (85, .aload_n 0, 1), (86, .getfield 52, 3), (89, .iload_n 3, 1), (90, .iaload, 1), (91, .goto 4, 3), (94, .iconst 0, 1), (95, .ireturn, 1)]]
def xt_105 : xI := [[(0, .iload_n 1, 1), (1, .invokestatic 90, 3), (4, .ifCond .eq 10, 3), (7, .iload_n 2, 1), (8, .invokestatic 90, 3), (11, .ifCond .ne 5, 3), (14, .iconst (-1), 1), (15, .ireturn, 1)], [(16, .aload_n 0, 1), (17, .getfield 11, 3), (20, .iload_n 1, 1), (21, .aaload, 1), (22, .aload_n 0, 1), (23, .getfield 11, 3), (26, .iload_n 2, 1), (27, .aaload, 1), (28, .bipush 12, 2), (30, .invokestatic 226, 3)], [(33, .istore_n 3, 1), (34, .iload_n 3, 1), (35, .ifCond .eq 9, 3), (38, .aload_n 0, 1), (39, .iload_n 3, 1), (40, .invokevirtual 94, 3), (43, .ireturn, 1), (44, .aload_n 0, 1), (45, .aload_n 0, 1), (46, .getfield 11, 3)], [(49, .iload_n 1, 1), (50, .aaload, 1), (51, .aload_n 0, 1), (52, .getfield 11, 3), (55, .iload_n 2, 1), (56, .aaload, 1), (57, .invokevirtual 244, 3), (60, .ireturn, 1)]]
def xt_106 : xI := [[(0, .iload_n 1, 1), (1, .invokestatic 90, 3), (4, .ifCond .eq 10, 3), (7, .iload_n 2, 1), (8, .invokestatic 90, 3), (11, .ifCond .ne 5, 3), (14, .iconst (-1), 1), (15, .ireturn, 1)], [(16, .aload_n 0, 1), (17, .getfield 11, 3), (20, .iload_n 1, 1), (21, .aaload, 1), (22, .aload_n 0, 1), (23, .getfield 11, 3), (26, .iload_n 2, 1), (27, .aaload, 1), (28, .bipush 11, 2), (30, .invokestatic 226, 3)], [(33, .istore_n 3, 1), (34, .iload_n 3, 1), (35, .ifCond .eq 9, 3), (38, .aload_n 0, 1), (39, .iload_n 3, 1), (40, .invokevirtual 94, 3), (43, .ireturn, 1), (44, .aload_n 0, 1), (45, .aload_n 0, 1), (46, .getfield 11, 3)], [(49, .iload_n 1, 1), (50, .aaload, 1), (51, .aload_n 0, 1), (52, .getfield 11, 3), (55, .iload_n 2, 1), (56, .aaload, 1), (57, .invokevirtual 244, 3), (60, .istore 4, 2), (62, .iload 4, 2)], [(64, .invokestatic 172, 3), (67, .iconst 2, 1), (68, .if_icmp .ge 6, 3), (71, .bipush (-9), 2), (73, .ireturn, 1), (74, .aload_n 0, 1), (75, .getfield 11, 3), (78, .iload_n 1, 1), (79, .aaload, 1)], [(80, .invokevirtual 125, 3), (83, .istore 5, 2), (85, .aload_n 0, 1), (86, .getfield 48, 3), (89, .iload 5, 2), (91, .iconst 1, 1), (92, .iadd, 1), (93, .iconst 0, 1), (94, .invokevirtual 98, 3)], [(97, .aload_n 0, 1), (98, .getfield 48, 3), (101, .aload_n 0, 1), (102, .getfield 11, 3), (105, .iload_n 1, 1), (106, .aaload, 1), (107, .iconst 0, 1), (108, .iconst 0, 1), (109, .iload 5, 2), (111, .invokevirtual 121, 3)], [(114, .iconst 0, 1), (115, .istore 6, 2), (117, .bipush 25, 2), (119, .istore 7, 2), (121, .iconst 0, 1), (122, .istore 8, 2), (124, .iload 8, 2), (126, .bipush 6, 2)], [(128, .if_icmp .ge 45, 3), (131, .aload_n 0, 1), (132, .getfield 48, 3), (135, .iload 5, 2), (137, .iload 8, 2), (139, .invokevirtual 109, 3), (142, .aload_n 0, 1), (143, .iload 4, 2)], [(145, .iload 5, 2), (147, .invokevirtual 248, 3), (150, .istore 9, 2), (152, .iload 9, 2), (154, .iload 7, 2), (156, .if_icmp .ge 11, 3), (159, .iload 9, 2)], [(161, .istore 7, 2), (163, .iload 8, 2), (165, .istore 6, 2), (167, .iinc 8 1, 3), (170, .goto (-46), 3), (173, .aload_n 0, 1), (174, .iload 7, 2)], [(176, .putfield 66, 3), (179, .iload 6, 2), (181, .ireturn, 1)]]
def xt_107 : xI := [[(0, .aload_n 0, 1), (1, .iload_n 1, 1), (2, .invokevirtual 142, 3), (5, .ifCond .eq 17, 3), (8, .iload_n 2, 1), (9, .invokestatic 90, 3), (12, .ifCond .eq 10, 3), (15, .iload_n 3, 1)], [(16, .invokestatic 90, 3), (19, .ifCond .ne 5, 3), (22, .iconst (-1), 1), (23, .ireturn, 1), (24, .aload_n 0, 1), (25, .getfield 11, 3), (28, .iload_n 2, 1), (29, .aaload, 1), (30, .aload_n 0, 1), (31, .getfield 11, 3)], [(34, .iload_n 3, 1), (35, .aaload, 1), (36, .bipush 12, 2), (38, .invokestatic 226, 3), (41, .istore 4, 2), (43, .iload 4, 2), (45, .ifCond .eq 10, 3)], [(48, .aload_n 0, 1), (49, .iload 4, 2), (51, .invokevirtual 94, 3), (54, .ireturn, 1), (55, .aload_n 0, 1), (56, .aload_n 0, 1), (57, .iload_n 1, 1), (58, .invokevirtual 149, 3), (61, .aload_n 0, 1), (62, .getfield 11, 3)], [(65, .iload_n 2, 1), (66, .aaload, 1), (67, .aload_n 0, 1), (68, .getfield 11, 3), (71, .iload_n 3, 1), (72, .aaload, 1), (73, .invokevirtual 251, 3), (76, .istore 5, 2), (78, .aload_n 0, 1), (79, .aload_n 0, 1)], [(80, .iload_n 1, 1), (81, .invokevirtual 149, 3), (84, .aload_n 0, 1), (85, .getfield 11, 3), (88, .iload_n 3, 1), (89, .aaload, 1), (90, .aload_n 0, 1), (91, .getfield 11, 3), (94, .iload_n 2, 1), (95, .aaload, 1)], [(96, .invokevirtual 251, 3), (99, .istore 6, 2), (101, .iload 5, 2), (103, .bipush (-9), 2), (105, .if_icmp .eq 10, 3), (108, .iload 6, 2), (110, .bipush (-9), 2)], [(112, .if_icmp .ne 24, 3), (115, .aload_n 0, 1), (116, .iload 5, 2), (118, .bipush (-9), 2), (120, .if_icmp .ne 8, 3), (123, .iload 6, 2), (125, .goto 5, 3)], [(128, .iload 5, 2), (130, .putfield 66, 3), (133, .goto 14, 3), (136, .aload_n 0, 1), (137, .iload 5, 2), (139, .iload 6, 2), (141, .invokestatic 255, 3)], [(144, .putfield 66, 3), (147, .iload 5, 2), (149, .bipush (-9), 2), (151, .if_icmp .ne 7, 3), (154, .iconst 1, 1), (155, .goto 4, 3), (158, .iconst 0, 1), (159, .iload 6, 2)], [(161, .bipush (-9), 2), (163, .if_icmp .ne 7, 3), (166, .iconst 2, 1), (167, .goto 4, 3), (170, .iconst 0, 1), (171, .iadd, 1), (172, .ireturn, 1)]]
def xt_108 : xI := [[(0, .aload_n 0, 1), (1, .iload_n 1, 1), (2, .invokevirtual 142, 3), (5, .ifCond .eq 12, 3), (8, .iload_n 2, 1), (9, .ifCond .lt 8, 3), (12, .iload_n 2, 1), (13, .iconst 5, 1), (14, .if_icmp .le 5, 3)], [(17, .iconst (-1), 1), (18, .ireturn, 1), (19, .aload_n 0, 1), (20, .getfield 62, 3), (23, .aload_n 0, 1), (24, .getfield 38, 3), (27, .aload_n 0, 1), (28, .iload_n 1, 1), (29, .invokevirtual 149, 3)], [(32, .iload_n 2, 1), (33, .invokevirtual 260, 3), (36, .aload_n 0, 1), (37, .aload_n 0, 1), (38, .getfield 62, 3), (41, .invokevirtual 264, 3), (44, .i2l, 1), (45, .lconst 1, 1), (46, .invokevirtual 234, 3)], [(49, .aload_n 0, 1), (50, .aload_n 0, 1), (51, .getfield 62, 3), (54, .invokevirtual 266, 3), (57, .putfield 66, 3), (60, .iconst 1, 1), (61, .ireturn, 1)]]
def xt_109 : xI := [[(0, .aload_n 0, 1), (1, .iload_n 1, 1), (2, .invokevirtual 142, 3), (5, .ifCond .eq 12, 3), (8, .iload_n 2, 1), (9, .ifCond .lt 8, 3), (12, .iload_n 2, 1), (13, .iconst 5, 1), (14, .if_icmp .le 5, 3)], [(17, .iconst (-1), 1), (18, .ireturn, 1), (19, .aload_n 0, 1), (20, .getfield 62, 3), (23, .aload_n 0, 1), (24, .getfield 38, 3), (27, .aload_n 0, 1), (28, .iload_n 1, 1), (29, .invokevirtual 149, 3)], [(32, .iload_n 2, 1), (33, .invokevirtual 260, 3), (36, .aload_n 0, 1), (37, .getfield 62, 3), (40, .invokevirtual 264, 3), (43, .ifCond .ne 8, 3), (46, .bipush (-9), 2)], [(48, .goto 10, 3), (51, .aload_n 0, 1), (52, .getfield 62, 3), (55, .invokevirtual 269, 3), (58, .ireturn, 1)]]
def xt_110 : xI := [[(0, .iload_n 1, 1), (1, .ifCond .lt 8, 3), (4, .iload_n 1, 1), (5, .iconst 3, 1), (6, .if_icmp .le 5, 3), (9, .iconst (-1), 1), (10, .ireturn, 1), (11, .aload_n 0, 1), (12, .getfield 38, 3), (15, .invokevirtual 139, 3)], [(18, .ifCond .ne 6, 3), (21, .bipush (-4), 2), (23, .ireturn, 1), (24, .iload_n 1, 1), (25, .ifCond .ne 5, 3), (28, .iconst 1, 1), (29, .ireturn, 1), (30, .aload_n 0, 1), (31, .getfield 48, 3)], [(34, .iload_n 1, 1), (35, .iconst 0, 1), (36, .invokevirtual 98, 3), (39, .aload_n 0, 1), (40, .iconst 0, 1), (41, .iload_n 1, 1), (42, .invokevirtual 272, 3), (45, .bipush (-9), 2), (47, .if_icmp .ne 7, 3)], [(50, .iconst 0, 1), (51, .goto 4, 3), (54, .iconst 1, 1), (55, .ireturn, 1)]]
def xt_111 : xI := [[(0, .iload_n 1, 1), (1, .iconst 1, 1), (2, .if_icmp .lt 8, 3), (5, .iload_n 1, 1), (6, .iconst 3, 1), (7, .if_icmp .le 5, 3), (10, .iconst (-1), 1), (11, .ireturn, 1), (12, .aload_n 0, 1), (13, .getfield 38, 3)], [(16, .invokevirtual 139, 3), (19, .ifCond .ne 6, 3), (22, .bipush (-4), 2), (24, .ireturn, 1), (25, .aload_n 0, 1), (26, .getfield 48, 3), (29, .iload_n 1, 1), (30, .iconst 0, 1), (31, .invokevirtual 98, 3)], [(34, .aload_n 0, 1), (35, .iconst 0, 1), (36, .iload_n 1, 1), (37, .invokevirtual 272, 3), (40, .ireturn, 1)]]
def xt_112 : xI := [[(0, .aload_n 0, 1), (1, .iload_n 1, 1), (2, .invokevirtual 142, 3), (5, .ifCond .eq 20, 3), (8, .iload_n 2, 1), (9, .invokestatic 90, 3), (12, .ifCond .eq 13, 3), (15, .iload_n 3, 1)], [(16, .ifCond .lt 9, 3), (19, .iload_n 3, 1), (20, .bipush 12, 2), (22, .if_icmp .le 5, 3), (25, .iconst (-1), 1), (26, .ireturn, 1), (27, .aload_n 0, 1), (28, .getfield 11, 3), (31, .iload_n 2, 1)], [(32, .aaload, 1), (33, .bipush 12, 2), (35, .invokestatic 217, 3), (38, .istore 4, 2), (40, .iload 4, 2), (42, .ifCond .eq 10, 3), (45, .aload_n 0, 1), (46, .iload 4, 2)], [(48, .invokevirtual 94, 3), (51, .ireturn, 1), (52, .lconst 1, 1), (53, .lstore 5, 2), (55, .lconst 1, 1), (56, .lstore 7, 2), (58, .iconst 0, 1), (59, .istore 9, 2), (61, .iload 9, 2), (63, .aload_n 0, 1)], [(64, .getfield 11, 3), (67, .iload_n 2, 1), (68, .aaload, 1), (69, .invokevirtual 125, 3), (72, .if_icmp .ge 44, 3), (75, .lload 5, 2), (77, .bipush 12, 2), (79, .aload_n 0, 1)], [(80, .aload_n 0, 1), (81, .iload_n 1, 1), (82, .invokevirtual 149, 3), (85, .aload_n 0, 1), (86, .getfield 11, 3), (89, .iload_n 2, 1), (90, .aaload, 1), (91, .iload 9, 2), (93, .iload_n 3, 1), (94, .invokevirtual 275, 3)], [(97, .isub, 1), (98, .i2l, 1), (99, .lmul, 1), (100, .lstore 5, 2), (102, .lload 7, 2), (104, .ldc2_w 279, 3), (107, .lmul, 1), (108, .lstore 7, 2), (110, .iinc 9 1, 3)], [(113, .goto (-52), 3), (116, .aload_n 0, 1), (117, .lload 5, 2), (119, .lload 7, 2), (121, .invokevirtual 234, 3), (124, .iconst 1, 1), (125, .ireturn, 1)]]
def xt_113 : xI := [[(0, .aload_n 0, 1), (1, .iload_n 1, 1), (2, .invokevirtual 142, 3), (5, .ifCond .eq 20, 3), (8, .iload_n 2, 1), (9, .invokestatic 90, 3), (12, .ifCond .eq 13, 3), (15, .iload_n 3, 1)], [(16, .ifCond .lt 9, 3), (19, .iload_n 3, 1), (20, .bipush 12, 2), (22, .if_icmp .le 5, 3), (25, .iconst (-1), 1), (26, .ireturn, 1), (27, .aload_n 0, 1), (28, .getfield 11, 3), (31, .iload_n 2, 1)], [(32, .aaload, 1), (33, .bipush 12, 2), (35, .invokestatic 217, 3), (38, .istore 4, 2), (40, .iload 4, 2), (42, .ifCond .eq 10, 3), (45, .aload_n 0, 1), (46, .iload 4, 2)], [(48, .invokevirtual 94, 3), (51, .ireturn, 1), (52, .lconst 0, 1), (53, .lstore 5, 2), (55, .iconst 0, 1), (56, .istore 7, 2), (58, .iload 7, 2), (60, .aload_n 0, 1), (61, .getfield 11, 3)], [(64, .iload_n 2, 1), (65, .aaload, 1), (66, .invokevirtual 125, 3), (69, .if_icmp .ge 33, 3), (72, .lload 5, 2), (74, .aload_n 0, 1), (75, .aload_n 0, 1), (76, .iload_n 1, 1), (77, .invokevirtual 149, 3)], [(80, .aload_n 0, 1), (81, .getfield 11, 3), (84, .iload_n 2, 1), (85, .aaload, 1), (86, .iload 7, 2), (88, .iload_n 3, 1), (89, .invokevirtual 275, 3), (92, .i2l, 1), (93, .ladd, 1), (94, .lstore 5, 2)], [(96, .iinc 7 1, 3), (99, .goto (-41), 3), (102, .aload_n 0, 1), (103, .lload 5, 2), (105, .ldc2_w 279, 3), (108, .invokevirtual 234, 3), (111, .iconst 1, 1)], [(112, .ireturn, 1)]]
def xt_114 : xI := [[(0, .iload_n 1, 1), (1, .iconst 1, 1), (2, .if_icmp .lt 23, 3), (5, .iload_n 1, 1), (6, .bipush 20, 2), (8, .if_icmp .gt 17, 3), (11, .iload_n 2, 1), (12, .iconst 1, 1), (13, .if_icmp .lt 12, 3)], [(16, .iload_n 2, 1), (17, .i2l, 1), (18, .ldc2_w 281, 3), (21, .lcmp, 1), (22, .ifCond .lt 5, 3), (25, .iconst (-1), 1), (26, .ireturn, 1), (27, .aload_n 0, 1), (28, .getfield 38, 3), (31, .invokevirtual 139, 3)], [(34, .istore_n 3, 1), (35, .iload_n 3, 1), (36, .ifCond .ne 6, 3), (39, .bipush (-4), 2), (41, .ireturn, 1), (42, .aload_n 0, 1), (43, .getfield 27, 3), (46, .invokevirtual 153, 3)], [(49, .istore 4, 2), (51, .iload 4, 2), (53, .iload_n 1, 1), (54, .iadd, 1), (55, .bipush 40, 2), (57, .if_icmp .le 6, 3), (60, .bipush (-2), 2), (62, .ireturn, 1), (63, .iload_n 2, 1)], [(64, .i2l, 1), (65, .lstore 5, 2), (67, .iconst 0, 1), (68, .istore 7, 2), (70, .iload 7, 2), (72, .iload_n 1, 1), (73, .if_icmp .ge 43, 3), (76, .ldc2_w 283, 3), (79, .lload 5, 2)], [(81, .lmul, 1), (82, .ldc2_w 281, 3), (85, .lrem, 1), (86, .lstore 5, 2), (88, .aload_n 0, 1), (89, .lload 5, 2), (91, .iload_n 3, 1), (92, .i2l, 1), (93, .lrem, 1), (94, .l2i, 1), (95, .lload 5, 2)], [(97, .ldc2_w 285, 3), (100, .ldiv, 1), (101, .ldc2_w 287, 3), (104, .lrem, 1), (105, .l2i, 1), (106, .invokevirtual 197, 3), (109, .pop, 1), (110, .iinc 7 1, 3)], [(113, .goto (-43), 3), (116, .aload_n 0, 1), (117, .getfield 27, 3), (120, .iload 4, 2), (122, .invokevirtual 206, 3), (125, .ireturn, 1)]]
def xt_115 : xI := [[(0, .aload_n 0, 1), (1, .getfield 66, 3), (4, .ireturn, 1)]]
def xt_116 : xI := [[(0, .aload_n 0, 1), (1, .getfield 70, 3), (4, .lreturn, 1)]]
def xt_117 : xI := [[(0, .aload_n 0, 1), (1, .getfield 74, 3), (4, .lreturn, 1)]]
def xt_118 : xI := [[(0, .iload_n 1, 1), (1, .tableswitch 117 0 8 #[51, 59, 67, 75, 84, 90, 96, 104, 112], 51)], [], [], [(52, .aload_n 0, 1), (53, .getfield 38, 3), (56, .invokevirtual 139, 3), (59, .ireturn, 1), (60, .aload_n 0, 1), (61, .getfield 38, 3)], [(64, .invokevirtual 191, 3), (67, .ireturn, 1), (68, .aload_n 0, 1), (69, .getfield 27, 3), (72, .invokevirtual 153, 3), (75, .ireturn, 1), (76, .aload_n 0, 1), (77, .getfield 27, 3)], [(80, .iconst 0, 1), (81, .invokevirtual 206, 3), (84, .ireturn, 1), (85, .aload_n 0, 1), (86, .iconst 1, 1), (87, .invokevirtual 289, 3), (90, .ireturn, 1), (91, .aload_n 0, 1), (92, .iconst 2, 1), (93, .invokevirtual 289, 3)], [(96, .ireturn, 1), (97, .aload_n 0, 1), (98, .getfield 11, 3), (101, .invokestatic 292, 3), (104, .ireturn, 1), (105, .aload_n 0, 1), (106, .getfield 15, 3), (109, .invokestatic 292, 3)], [(112, .ireturn, 1), (113, .aload_n 0, 1), (114, .invokevirtual 296, 3), (117, .ireturn, 1), (118, .iconst (-1), 1), (119, .ireturn, 1)]]
def xt_119 : xI := [[(0, .aload_n 0, 1), (1, .getfield 77, 3), (4, .ireturn, 1)]]
def xt_120 : xI := [[(0, .iload_n 1, 1), (1, .iconst 1, 1), (2, .if_icmp .lt 8, 3), (5, .iload_n 1, 1), (6, .iconst 5, 1), (7, .if_icmp .le 7, 3), (10, .iconst (-1), 1), (11, .goto 9, 3), (14, .aload_n 0, 1), (15, .getfield 80, 3)], [(18, .iload_n 1, 1), (19, .iaload, 1), (20, .ireturn, 1)]]
def xt_121 : xI := [[(0, .ldc2_w 299, 3), (3, .lstore_n 1, 1), (4, .iconst 0, 1), (5, .istore_n 3, 1), (6, .iload_n 3, 1), (7, .bipush 8, 2), (9, .if_icmp .gt 22, 3), (12, .ldc2_w 301, 3), (15, .lload_n 1, 1)], [(16, .lmul, 1), (17, .aload_n 0, 1), (18, .iload_n 3, 1), (19, .invokevirtual 303, 3), (22, .i2l, 1), (23, .ladd, 1), (24, .lstore_n 1, 1), (25, .iinc 3 1, 3), (28, .goto (-22), 3), (31, .iconst 0, 1)], [(32, .istore_n 3, 1), (33, .iload_n 3, 1), (34, .bipush 6, 2), (36, .if_icmp .ge 25, 3), (39, .ldc2_w 301, 3), (42, .lload_n 1, 1), (43, .lmul, 1), (44, .aload_n 0, 1), (45, .getfield 38, 3)], [(48, .iload_n 3, 1), (49, .invokevirtual 188, 3), (52, .i2l, 1), (53, .ladd, 1), (54, .lstore_n 1, 1), (55, .iinc 3 1, 3), (58, .goto (-25), 3), (61, .iconst 0, 1), (62, .istore_n 3, 1), (63, .iload_n 3, 1)], [(64, .aload_n 0, 1), (65, .getfield 38, 3), (68, .invokevirtual 139, 3), (71, .if_icmp .ge 39, 3), (74, .iconst 0, 1), (75, .istore 4, 2), (77, .iload 4, 2), (79, .iconst 3, 1)], [(80, .if_icmp .gt 24, 3), (83, .ldc2_w 301, 3), (86, .lload_n 1, 1), (87, .lmul, 1), (88, .aload_n 0, 1), (89, .iload_n 3, 1), (90, .iload 4, 2), (92, .invokevirtual 145, 3), (95, .i2l, 1)], [(96, .ladd, 1), (97, .lstore_n 1, 1), (98, .iinc 4 1, 3), (101, .goto (-24), 3), (104, .iinc 3 1, 3), (107, .goto (-44), 3), (110, .iconst 0, 1), (111, .istore_n 3, 1)], [(112, .iload_n 3, 1), (113, .aload_n 0, 1), (114, .getfield 38, 3), (117, .invokevirtual 191, 3), (120, .if_icmp .ge 41, 3), (123, .ldc2_w 301, 3), (126, .ldc2_w 301, 3)], [(129, .lload_n 1, 1), (130, .lmul, 1), (131, .aload_n 0, 1), (132, .getfield 38, 3), (135, .iload_n 3, 1), (136, .iconst 0, 1), (137, .invokevirtual 194, 3), (140, .i2l, 1), (141, .ladd, 1), (142, .lmul, 1), (143, .aload_n 0, 1)], [(144, .getfield 38, 3), (147, .iload_n 3, 1), (148, .iconst 1, 1), (149, .invokevirtual 194, 3), (152, .i2l, 1), (153, .ladd, 1), (154, .lstore_n 1, 1), (155, .iinc 3 1, 3), (158, .goto (-46), 3)], [(161, .iconst 0, 1), (162, .istore_n 3, 1), (163, .iload_n 3, 1), (164, .aload_n 0, 1), (165, .getfield 27, 3), (168, .invokevirtual 153, 3), (171, .if_icmp .ge 42, 3), (174, .iconst 0, 1), (175, .istore 4, 2)], [(177, .iload 4, 2), (179, .iconst 3, 1), (180, .if_icmp .gt 27, 3), (183, .ldc2_w 301, 3), (186, .lload_n 1, 1), (187, .lmul, 1), (188, .aload_n 0, 1), (189, .getfield 27, 3)], [(192, .iload_n 3, 1), (193, .iload 4, 2), (195, .invokevirtual 200, 3), (198, .i2l, 1), (199, .ladd, 1), (200, .lstore_n 1, 1), (201, .iinc 4 1, 3), (204, .goto (-27), 3), (207, .iinc 3 1, 3)], [(210, .goto (-47), 3), (213, .iconst 0, 1), (214, .istore_n 3, 1), (215, .iload_n 3, 1), (216, .iconst 3, 1), (217, .if_icmp .ge 26, 3), (220, .ldc2_w 301, 3), (223, .lload_n 1, 1)], [(224, .lmul, 1), (225, .aload_n 0, 1), (226, .getfield 31, 3), (229, .iload_n 3, 1), (230, .aaload, 1), (231, .invokevirtual 153, 3), (234, .i2l, 1), (235, .ladd, 1), (236, .lstore_n 1, 1), (237, .iinc 3 1, 3)], [(240, .goto (-25), 3), (243, .aload_n 0, 1), (244, .getfield 15, 3), (247, .aload_n 0, 1), (248, .getfield 11, 3), (251, .lload_n 1, 1), (252, .invokestatic 306, 3), (255, .invokestatic 306, 3)], [(258, .lreturn, 1)]]
def xt_122 : xI := [[(0, .aload_n 0, 1), (1, .iload_n 1, 1), (2, .putfield 77, 3), (5, .iload_n 1, 1), (6, .iconst 1, 1), (7, .if_icmp .lt 18, 3), (10, .iload_n 1, 1), (11, .iconst 5, 1), (12, .if_icmp .gt 13, 3), (15, .aload_n 0, 1)], [(16, .getfield 80, 3), (19, .iload_n 1, 1), (20, .dup2, 1), (21, .iaload, 1), (22, .iconst 1, 1), (23, .iadd, 1), (24, .iastore, 1), (25, .bipush (-3), 2), (27, .ireturn, 1)]]
def xt_123 : xI := [[(0, .iload_n 0, 1), (1, .ifCond .lt 13, 3), (4, .iload_n 0, 1), (5, .bipush 6, 2), (7, .if_icmp .ge 7, 3), (10, .iconst 1, 1), (11, .goto 4, 3), (14, .iconst 0, 1), (15, .ireturn, 1)]]
def xt_124 : xI := [[(0, .iload_n 0, 1), (1, .ifCond .lt 12, 3), (4, .iload_n 0, 1), (5, .iconst 4, 1), (6, .if_icmp .ge 7, 3), (9, .iconst 1, 1), (10, .goto 4, 3), (13, .iconst 0, 1), (14, .ireturn, 1)]]
def xt_125 : xI := [[(0, .iload_n 0, 1), (1, .ifCond .lt 12, 3), (4, .iload_n 0, 1), (5, .iconst 3, 1), (6, .if_icmp .ge 7, 3), (9, .iconst 1, 1), (10, .goto 4, 3), (13, .iconst 0, 1), (14, .ireturn, 1)]]
def xt_126 : xI := [[(0, .iload_n 0, 1), (1, .ifCond .lt 13, 3), (4, .iload_n 0, 1), (5, .bipush 6, 2), (7, .if_icmp .ge 7, 3), (10, .iconst 1, 1), (11, .goto 4, 3), (14, .iconst 0, 1), (15, .ireturn, 1)]]
def xt_127 : xI := [[(0, .iload_n 1, 1), (1, .ifCond .lt 18, 3), (4, .iload_n 1, 1), (5, .aload_n 0, 1), (6, .getfield 38, 3), (9, .invokevirtual 139, 3), (12, .if_icmp .ge 7, 3), (15, .iconst 1, 1)], [(16, .goto 4, 3), (19, .iconst 0, 1), (20, .ireturn, 1)]]
def xt_128 : xI := [[(0, .aload_n 0, 1), (1, .invokevirtual 112, 3), (4, .ifCond .eq 5, 3), (7, .iconst 1, 1), (8, .ireturn, 1), (9, .aload_n 0, 1), (10, .iload_n 1, 1), (11, .invokevirtual 241, 3), (14, .ifCond .eq 7, 3)], [(17, .iconst 0, 1), (18, .goto 4, 3), (21, .iconst 2, 1), (22, .ireturn, 1)]]
def xt_129 : xI := [[(0, .aload_n 0, 1), (1, .invokevirtual 112, 3), (4, .ifCond .eq 5, 3), (7, .iconst 1, 1), (8, .ireturn, 1), (9, .aload_n 0, 1), (10, .invokevirtual 125, 3), (13, .iload_n 1, 1), (14, .if_icmp .le 5, 3)], [(17, .iconst 5, 1), (18, .ireturn, 1), (19, .iconst 0, 1), (20, .istore_n 2, 1), (21, .iload_n 2, 1), (22, .aload_n 0, 1), (23, .invokevirtual 125, 3), (26, .if_icmp .ge 22, 3), (29, .aload_n 0, 1), (30, .iload_n 2, 1), (31, .invokevirtual 106, 3)], [(34, .invokestatic 185, 3), (37, .ifCond .ne 5, 3), (40, .iconst 3, 1), (41, .ireturn, 1), (42, .iinc 2 1, 3), (45, .goto (-24), 3)], [(48, .iconst 0, 1), (49, .ireturn, 1)]]
def xt_130 : xI := [[(0, .aload_n 0, 1), (1, .iload_n 2, 1), (2, .invokestatic 217, 3), (5, .istore_n 3, 1), (6, .iload_n 3, 1), (7, .ifCond .ne 9, 3), (10, .aload_n 1, 1), (11, .iload_n 2, 1), (12, .invokestatic 217, 3), (15, .istore_n 3, 1)], [(16, .iload_n 3, 1), (17, .ifCond .ne 16, 3), (20, .aload_n 0, 1), (21, .invokevirtual 125, 3), (24, .aload_n 1, 1), (25, .invokevirtual 125, 3), (28, .if_icmp .eq 5, 3), (31, .iconst 5, 1)], [(32, .istore_n 3, 1), (33, .iload_n 3, 1), (34, .ireturn, 1)]]
def xt_131 : xI := [[(0, .iload_n 0, 1), (1, .tableswitch 85 1 5 #[35, 45, 55, 65, 75], 35)], [], [(36, .new 310, 3), (39, .dup, 1), (40, .iload_n 0, 1), (41, .iload_n 1, 1), (42, .invokespecial 312, 3), (45, .areturn, 1), (46, .new 314, 3)], [(49, .dup, 1), (50, .iload_n 0, 1), (51, .iload_n 1, 1), (52, .invokespecial 316, 3), (55, .areturn, 1), (56, .new 317, 3), (59, .dup, 1), (60, .iload_n 0, 1), (61, .iload_n 1, 1), (62, .invokespecial 319, 3)], [(65, .areturn, 1), (66, .new 178, 3), (69, .dup, 1), (70, .iload_n 0, 1), (71, .iload_n 1, 1), (72, .invokespecial 320, 3), (75, .areturn, 1), (76, .new 321, 3), (79, .dup, 1)], [(80, .iload_n 0, 1), (81, .iload_n 1, 1), (82, .invokespecial 323, 3), (85, .areturn, 1), (86, .new 18, 3), (89, .dup, 1), (90, .iload_n 0, 1), (91, .iload_n 1, 1), (92, .invokespecial 324, 3), (95, .areturn, 1)]]
def xt_132 : xI := [[(0, .aload_n 0, 1), (1, .getfield 38, 3), (4, .iload_n 1, 1), (5, .invokevirtual 325, 3), (8, .istore_n 2, 1), (9, .iload_n 2, 1), (10, .ifCond .lt 18, 3), (13, .iload_n 2, 1), (14, .bipush 24, 2)], [(16, .if_icmp .ge 12, 3), (19, .aload_n 0, 1), (20, .getfield 20, 3), (23, .iload_n 2, 1), (24, .aaload, 1), (25, .goto 9, 3), (28, .aload_n 0, 1), (29, .getfield 20, 3)], [(32, .iconst 0, 1), (33, .aaload, 1), (34, .areturn, 1)]]
def xt_133 : xI := [[(0, .iload_n 2, 1), (1, .tableswitch 54 0 2 #[27, 36, 45], 27)], [(28, .aload_n 0, 1), (29, .iload_n 1, 1), (30, .invokevirtual 149, 3)], [(33, .invokevirtual 328, 3), (36, .ireturn, 1), (37, .aload_n 0, 1), (38, .iload_n 1, 1), (39, .invokevirtual 149, 3), (42, .invokevirtual 157, 3), (45, .ireturn, 1), (46, .aload_n 0, 1), (47, .getfield 27, 3)], [(50, .iload_n 1, 1), (51, .invokevirtual 331, 3), (54, .ireturn, 1), (55, .aload_n 0, 1), (56, .getfield 27, 3), (59, .iload_n 1, 1), (60, .invokevirtual 334, 3), (63, .ireturn, 1)]]
def xt_134 : xI := [[(0, .iconst 0, 1), (1, .istore_n 2, 1), (2, .iconst 0, 1), (3, .istore_n 3, 1), (4, .iload_n 3, 1), (5, .aload_n 0, 1), (6, .getfield 27, 3), (9, .invokevirtual 153, 3), (12, .if_icmp .ge 28, 3), (15, .aload_n 0, 1)], [(16, .getfield 38, 3), (19, .aload_n 1, 1), (20, .aload_n 0, 1), (21, .getfield 27, 3), (24, .iload_n 3, 1), (25, .invokevirtual 160, 3), (28, .ifCond .ne 6, 3), (31, .iinc 2 1, 3)], [(34, .iinc 3 1, 3), (37, .goto (-33), 3), (40, .iload_n 2, 1), (41, .ireturn, 1)]]
def xt_135 : xI := [[(0, .aload_n 0, 1), (1, .getfield 27, 3), (4, .invokevirtual 153, 3), (7, .istore_n 3, 1), (8, .aload_n 0, 1), (9, .getfield 27, 3), (12, .iload_n 2, 1), (13, .iload_n 1, 1), (14, .invokevirtual 337, 3)], [(17, .aload_n 0, 1), (18, .getfield 38, 3), (21, .aload_n 0, 1), (22, .iload_n 1, 1), (23, .invokevirtual 149, 3), (26, .aload_n 0, 1), (27, .getfield 27, 3), (30, .iload_n 3, 1), (31, .invokevirtual 160, 3)], [(34, .istore 4, 2), (36, .aload_n 0, 1), (37, .getfield 27, 3), (40, .iload_n 3, 1), (41, .iload 4, 2), (43, .aload_n 0, 1), (44, .getfield 38, 3), (47, .iload_n 2, 1)], [(48, .iload 4, 2), (50, .invokevirtual 340, 3), (53, .invokevirtual 343, 3), (56, .iload 4, 2), (58, .ireturn, 1)]]
def xt_136 : xI := [[(0, .iconst 0, 1), (1, .istore_n 2, 1), (2, .iconst 0, 1), (3, .istore_n 3, 1), (4, .iload_n 3, 1), (5, .aload_n 0, 1), (6, .getfield 38, 3), (9, .invokevirtual 139, 3), (12, .if_icmp .ge 24, 3), (15, .aload_n 0, 1)], [(16, .iload_n 3, 1), (17, .invokevirtual 149, 3), (20, .iload_n 1, 1), (21, .invokevirtual 154, 3), (24, .ifCond .eq 6, 3), (27, .iinc 2 1, 3), (30, .iinc 3 1, 3)], [(33, .goto (-29), 3), (36, .iload_n 2, 1), (37, .ireturn, 1)]]
def xt_137 : xI := [[(0, .iconst 0, 1), (1, .istore_n 1, 1), (2, .iconst 0, 1), (3, .istore_n 2, 1), (4, .iload_n 2, 1), (5, .iconst 3, 1), (6, .if_icmp .ge 24, 3), (9, .aload_n 0, 1), (10, .getfield 31, 3), (13, .iload_n 2, 1), (14, .aaload, 1), (15, .invokevirtual 216, 3)], [(18, .ifCond .ne 6, 3), (21, .iinc 1 1, 3), (24, .iinc 2 1, 3), (27, .goto (-23), 3), (30, .iload_n 1, 1), (31, .ireturn, 1)]]
def xt_138 : xI := [[(0, .iconst 0, 1), (1, .istore_n 1, 1), (2, .iconst 0, 1), (3, .istore_n 2, 1), (4, .iload_n 2, 1), (5, .aload_n 0, 1), (6, .arraylength, 1), (7, .if_icmp .ge 21, 3), (10, .aload_n 0, 1), (11, .iload_n 2, 1), (12, .aaload, 1), (13, .invokevirtual 112, 3)], [(16, .ifCond .ne 6, 3), (19, .iinc 1 1, 3), (22, .iinc 2 1, 3), (25, .goto (-21), 3), (28, .iload_n 1, 1), (29, .ireturn, 1)]]
def xt_139 : xI := [[(0, .lload_n 1, 1), (1, .lstore_n 3, 1), (2, .iconst 0, 1), (3, .istore 5, 2), (5, .iload 5, 2), (7, .aload_n 0, 1), (8, .arraylength, 1), (9, .if_icmp .ge 62, 3), (12, .ldc2_w 301, 3), (15, .lload_n 3, 1)], [(16, .lmul, 1), (17, .aload_n 0, 1), (18, .iload 5, 2), (20, .aaload, 1), (21, .invokevirtual 125, 3), (24, .i2l, 1), (25, .ladd, 1), (26, .lstore_n 3, 1), (27, .iconst 0, 1), (28, .istore 6, 2), (30, .iload 6, 2)], [(32, .aload_n 0, 1), (33, .iload 5, 2), (35, .aaload, 1), (36, .invokevirtual 125, 3), (39, .if_icmp .ge 26, 3), (42, .ldc2_w 301, 3), (45, .lload_n 3, 1), (46, .lmul, 1), (47, .aload_n 0, 1)], [(48, .iload 5, 2), (50, .aaload, 1), (51, .iload 6, 2), (53, .invokevirtual 106, 3), (56, .i2l, 1), (57, .ladd, 1), (58, .lstore_n 3, 1), (59, .iinc 6 1, 3), (62, .goto (-32), 3)], [(65, .iinc 5 1, 3), (68, .goto (-63), 3), (71, .lload_n 3, 1), (72, .lreturn, 1)]]
def xt_140 : xI := [[(0, .aload_n 2, 1), (1, .invokevirtual 125, 3), (4, .bipush 6, 2), (6, .invokestatic 255, 3), (9, .istore_n 3, 1), (10, .iconst 0, 1), (11, .istore 4, 2), (13, .iload 4, 2), (15, .iload_n 3, 1)], [(16, .if_icmp .ge 18, 3), (19, .aload_n 0, 1), (20, .getfield 52, 3), (23, .iload 4, 2), (25, .bipush 63, 2), (27, .iastore, 1), (28, .iinc 4 1, 3), (31, .goto (-18), 3)], [(34, .iconst 1, 1), (35, .istore 4, 2), (37, .iconst 0, 1), (38, .istore 5, 2), (40, .iload 5, 2), (42, .iload_n 3, 1), (43, .if_icmp .ge 69, 3), (46, .aload_n 1, 1), (47, .iload 5, 2)], [(49, .invokevirtual 347, 3), (52, .istore 6, 2), (54, .iload 6, 2), (56, .ifCond .lt 38, 3), (59, .iload 6, 2), (61, .iload_n 3, 1), (62, .if_icmp .ge 32, 3)], [(65, .aload_n 0, 1), (66, .getfield 52, 3), (69, .iload 6, 2), (71, .dup2, 1), (72, .iaload, 1), (73, .aload_n 0, 1), (74, .getfield 38, 3), (77, .aload_n 1, 1), (78, .iload 5, 2)], [(80, .aload_n 2, 1), (81, .iload 5, 2), (83, .invokevirtual 106, 3), (86, .invokevirtual 168, 3), (89, .iand, 1), (90, .iastore, 1), (91, .goto 15, 3), (94, .aload_n 2, 1), (95, .iload 5, 2)], [(97, .invokevirtual 106, 3), (100, .ifCond .eq 6, 3), (103, .iconst 0, 1), (104, .istore 4, 2), (106, .iinc 5 1, 3), (109, .goto (-69), 3)], [(112, .iconst 0, 1), (113, .istore 5, 2), (115, .iload 5, 2), (117, .iload_n 3, 1), (118, .if_icmp .ge 29, 3), (121, .iload 4, 2), (123, .aload_n 0, 1), (124, .getfield 52, 3), (127, .iload 5, 2)], [(129, .iaload, 1), (130, .ifCond .eq 7, 3), (133, .iconst 1, 1), (134, .goto 4, 3), (137, .iconst 0, 1), (138, .iand, 1), (139, .istore 4, 2), (141, .iinc 5 1, 3)], [(144, .goto (-29), 3), (147, .iload 4, 2), (149, .ireturn, 1)]]
def xt_141 : xI := [[(0, .iconst 0, 1), (1, .istore_n 1, 1), (2, .iload_n 1, 1), (3, .bipush 6, 2), (5, .if_icmp .ge 20, 3), (8, .iload_n 0, 1), (9, .iload_n 1, 1), (10, .ishr, 1), (11, .iconst 1, 1), (12, .iand, 1), (13, .iconst 1, 1), (14, .if_icmp .ne 5, 3)], [(17, .iload_n 1, 1), (18, .ireturn, 1), (19, .iinc 1 1, 3), (22, .goto (-20), 3), (25, .iconst 0, 1), (26, .ireturn, 1)]]
def xt_142 : xI := [[(0, .iconst 0, 1), (1, .istore 4, 2), (3, .iload 4, 2), (5, .aload_n 2, 1), (6, .invokevirtual 125, 3), (9, .if_icmp .ge 32, 3), (12, .aload_n 0, 1), (13, .getfield 38, 3)], [(16, .aload_n 1, 1), (17, .aload_n 2, 1), (18, .iload 4, 2), (20, .invokevirtual 160, 3), (23, .aload_n 3, 1), (24, .iload 4, 2), (26, .invokevirtual 106, 3), (29, .if_icmp .eq 6, 3)], [(32, .iload 4, 2), (34, .ireturn, 1), (35, .iinc 4 1, 3), (38, .goto (-35), 3), (41, .bipush (-9), 2), (43, .ireturn, 1)]]
def xt_143 : xI := [[(0, .iconst 0, 1), (1, .istore_n 3, 1), (2, .iconst 0, 1), (3, .istore 4, 2), (5, .iload 4, 2), (7, .bipush 24, 2), (9, .if_icmp .ge 34, 3), (12, .aload_n 0, 1), (13, .aload_n 0, 1), (14, .getfield 20, 3)], [(17, .iload 4, 2), (19, .aaload, 1), (20, .aload_n 1, 1), (21, .aload_n 2, 1), (22, .invokevirtual 251, 3), (25, .bipush (-9), 2), (27, .if_icmp .ne 10, 3), (30, .iload_n 3, 1), (31, .iconst 1, 1)], [(32, .iload 4, 2), (34, .ishl, 1), (35, .ior, 1), (36, .istore_n 3, 1), (37, .iinc 4 1, 3), (40, .goto (-35), 3), (43, .iload_n 3, 1), (44, .ireturn, 1)]]
def xt_144 : xI := [[(0, .iconst 0, 1), (1, .istore_n 3, 1), (2, .iload_n 3, 1), (3, .bipush 6, 2), (5, .if_icmp .ge 16, 3), (8, .aload_n 0, 1), (9, .getfield 56, 3), (12, .iload_n 3, 1), (13, .iconst 0, 1), (14, .iastore, 1), (15, .iinc 3 1, 3)], [(18, .goto (-16), 3), (21, .iconst 0, 1), (22, .istore_n 3, 1), (23, .iconst 0, 1), (24, .istore 4, 2), (26, .iload 4, 2), (28, .bipush 24, 2), (30, .if_icmp .ge 71, 3)], [(33, .iload_n 1, 1), (34, .iload 4, 2), (36, .ishr, 1), (37, .iconst 1, 1), (38, .iand, 1), (39, .iconst 1, 1), (40, .if_icmp .ne 55, 3), (43, .aload_n 0, 1), (44, .getfield 38, 3), (47, .aload_n 0, 1)], [(48, .getfield 20, 3), (51, .iload 4, 2), (53, .aaload, 1), (54, .aload_n 0, 1), (55, .getfield 48, 3), (58, .iload_n 2, 1), (59, .invokevirtual 160, 3), (62, .istore 5, 2)], [(64, .iload 5, 2), (66, .invokestatic 185, 3), (69, .ifCond .eq 26, 3), (72, .aload_n 0, 1), (73, .getfield 56, 3), (76, .iload 5, 2), (78, .dup2, 1), (79, .iaload, 1)], [(80, .iconst 1, 1), (81, .iadd, 1), (82, .iastore, 1), (83, .iload_n 3, 1), (84, .aload_n 0, 1), (85, .getfield 56, 3), (88, .iload 5, 2), (90, .iaload, 1), (91, .invokestatic 350, 3), (94, .istore_n 3, 1), (95, .iinc 4 1, 3)], [(98, .goto (-72), 3), (101, .iload_n 3, 1), (102, .ireturn, 1)]]
def xt_145 : xI := [[(0, .iload_n 1, 1), (1, .iconst 3, 1), (2, .if_icmp .lt 6, 3), (5, .bipush (-9), 2), (7, .ireturn, 1), (8, .iconst 0, 1), (9, .istore_n 3, 1), (10, .iload_n 3, 1), (11, .bipush 6, 2), (13, .if_icmp .ge 48, 3)], [(16, .aload_n 0, 1), (17, .getfield 48, 3), (20, .iload_n 1, 1), (21, .iload_n 3, 1), (22, .invokevirtual 109, 3), (25, .aload_n 0, 1), (26, .iload_n 1, 1), (27, .invokevirtual 353, 3), (30, .ifCond .eq 25, 3)], [(33, .iload_n 1, 1), (34, .iconst 1, 1), (35, .iadd, 1), (36, .iload_n 2, 1), (37, .if_icmp .ge 16, 3), (40, .aload_n 0, 1), (41, .iload_n 1, 1), (42, .iconst 1, 1), (43, .iadd, 1), (44, .iload_n 2, 1), (45, .invokevirtual 272, 3)], [(48, .bipush (-9), 2), (50, .if_icmp .eq 5, 3), (53, .iload_n 3, 1), (54, .ireturn, 1), (55, .iinc 3 1, 3), (58, .goto (-48), 3), (61, .bipush (-9), 2), (63, .ireturn, 1)]]
def xt_146 : xI := [[(0, .iconst 0, 1), (1, .istore_n 2, 1), (2, .iload_n 2, 1), (3, .aload_n 0, 1), (4, .getfield 38, 3), (7, .invokevirtual 139, 3), (10, .if_icmp .ge 46, 3), (13, .aload_n 0, 1), (14, .getfield 38, 3)], [(17, .aload_n 0, 1), (18, .getfield 48, 3), (21, .iload_n 1, 1), (22, .invokevirtual 106, 3), (25, .aload_n 0, 1), (26, .getfield 38, 3), (29, .aload_n 0, 1), (30, .iload_n 2, 1), (31, .invokevirtual 149, 3)], [(34, .aload_n 0, 1), (35, .getfield 48, 3), (38, .iload_n 1, 1), (39, .invokevirtual 160, 3), (42, .invokevirtual 223, 3), (45, .ifCond .eq 5, 3)], [(48, .iconst 0, 1), (49, .ireturn, 1), (50, .iinc 2 1, 3), (53, .goto (-51), 3), (56, .iconst 1, 1), (57, .ireturn, 1)]]
def xt_147 : xI := [[(0, .aload_n 2, 1), (1, .iload_n 3, 1), (2, .invokevirtual 106, 3), (5, .istore 5, 2), (7, .aload_n 0, 1), (8, .getfield 38, 3), (11, .iload 5, 2), (13, .iconst 0, 1), (14, .invokevirtual 223, 3)], [(17, .ifCond .eq 8, 3), (20, .iload 4, 2), (22, .goto 4, 3), (25, .iconst 0, 1), (26, .istore 6, 2), (28, .aload_n 0, 1), (29, .getfield 38, 3)], [(32, .iload 5, 2), (34, .aload_n 0, 1), (35, .getfield 38, 3), (38, .aload_n 1, 1), (39, .aload_n 2, 1), (40, .iload_n 3, 1), (41, .invokevirtual 160, 3), (44, .invokevirtual 223, 3), (47, .ifCond .eq 11, 3)], [(50, .bipush 12, 2), (52, .iload 4, 2), (54, .isub, 1), (55, .goto 4, 3), (58, .iconst 0, 1), (59, .istore 7, 2), (61, .iload 6, 2), (63, .iload 7, 2)], [(65, .iadd, 1), (66, .ireturn, 1)]]
def xt_148 : xI := [[(0, .lload_n 1, 1), (1, .lload_n 3, 1), (2, .invokestatic 356, 3), (5, .lstore 5, 2), (7, .lload 5, 2), (9, .lconst 0, 1), (10, .lcmp, 1), (11, .ifCond .le 19, 3), (14, .aload_n 0, 1), (15, .lload_n 1, 1)], [(16, .lload 5, 2), (18, .ldiv, 1), (19, .putfield 70, 3), (22, .aload_n 0, 1), (23, .lload_n 3, 1), (24, .lload 5, 2), (26, .ldiv, 1), (27, .putfield 74, 3), (30, .return_, 1)]]
def xt_149 : xI := [[(0, .lload_n 2, 1), (1, .lstore 4, 2), (3, .lload_n 0, 1), (4, .lstore 6, 2), (6, .iconst 0, 1), (7, .istore 8, 2), (9, .iload 8, 2), (11, .bipush 100, 2), (13, .if_icmp .ge 31, 3)], [(16, .lload 6, 2), (18, .lconst 0, 1), (19, .lcmp, 1), (20, .ifCond .eq 24, 3), (23, .lload 4, 2), (25, .lload 6, 2), (27, .lrem, 1), (28, .lstore 9, 2), (30, .lload 6, 2)], [(32, .lstore 4, 2), (34, .lload 9, 2), (36, .lstore 6, 2), (38, .iinc 8 1, 3), (41, .goto (-32), 3), (44, .lload 4, 2), (46, .lreturn, 1)]]
def xt_150 : xI := [[(0, .aload_n 0, 1), (1, .invokespecial 1, 3), (4, .aload_n 0, 1), (5, .bipush 6, 2), (7, .newarray .int, 2), (9, .putfield 7, 3), (12, .aload_n 0, 1), (13, .sipush 240, 3)], [(16, .newarray .int, 2), (18, .putfield 13, 3), (21, .aload_n 0, 1), (22, .iconst 4, 1), (23, .newarray .int, 2), (25, .putfield 16, 3), (28, .aload_n 0, 1), (29, .sipush 240, 3)], [(32, .newarray .int, 2), (34, .putfield 19, 3), (37, .aload_n 0, 1), (38, .bipush 6, 2), (40, .newarray .int, 2), (42, .putfield 22, 3), (45, .aload_n 0, 1), (46, .bipush 12, 2)], [(48, .newarray .int, 2), (50, .putfield 25, 3), (53, .aload_n 0, 1), (54, .bipush 16, 2), (56, .newarray .int, 2), (58, .putfield 28, 3), (61, .aload_n 0, 1), (62, .bipush 6, 2)], [(64, .newarray .int, 2), (66, .putfield 31, 3), (69, .aload_n 0, 1), (70, .bipush 12, 2), (72, .newarray .int, 2), (74, .putfield 34, 3), (77, .aload_n 0, 1), (78, .bipush 16, 2)], [(80, .newarray .int, 2), (82, .putfield 37, 3), (85, .aload_n 0, 1), (86, .bipush 40, 2), (88, .newarray .int, 2), (90, .putfield 40, 3), (93, .aload_n 0, 1), (94, .bipush 40, 2)], [(96, .newarray .int, 2), (98, .putfield 43, 3), (101, .aload_n 0, 1), (102, .iconst 3, 1), (103, .newarray .int, 2), (105, .putfield 46, 3), (108, .aload_n 0, 1), (109, .bipush 120, 2), (111, .newarray .int, 2)], [(113, .putfield 49, 3), (116, .aload_n 0, 1), (117, .bipush 120, 2), (119, .newarray .int, 2), (121, .putfield 52, 3), (124, .aload_n 0, 1), (125, .lconst 1, 1), (126, .putfield 55, 3)], [(129, .aload_n 0, 1), (130, .bipush 6, 2), (132, .newarray .int, 2), (134, .putfield 59, 3), (137, .aload_n 0, 1), (138, .bipush 13, 2), (140, .newarray .int, 2), (142, .putfield 62, 3)], [(145, .aload_n 0, 1), (146, .bipush 13, 2), (148, .newarray .int, 2), (150, .putfield 65, 3), (153, .aload_n 0, 1), (154, .bipush 13, 2), (156, .newarray .int, 2), (158, .putfield 68, 3)], [(161, .iconst 0, 1), (162, .istore_n 1, 1), (163, .iload_n 1, 1), (164, .bipush 6, 2), (166, .if_icmp .ge 16, 3), (169, .aload_n 0, 1), (170, .getfield 7, 3), (173, .iload_n 1, 1), (174, .iconst (-1), 1), (175, .iastore, 1)], [(176, .iinc 1 1, 3), (179, .goto (-16), 3), (182, .iconst 0, 1), (183, .istore_n 1, 1), (184, .iload_n 1, 1), (185, .iconst 4, 1), (186, .if_icmp .ge 16, 3), (189, .aload_n 0, 1), (190, .getfield 16, 3)], [(193, .iload_n 1, 1), (194, .iconst (-1), 1), (195, .iastore, 1), (196, .iinc 1 1, 3), (199, .goto (-15), 3), (202, .iconst 0, 1), (203, .istore_n 1, 1), (204, .iload_n 1, 1), (205, .iconst 3, 1), (206, .if_icmp .ge 16, 3)], [(209, .aload_n 0, 1), (210, .getfield 46, 3), (213, .iload_n 1, 1), (214, .iconst (-1), 1), (215, .iastore, 1), (216, .iinc 1 1, 3), (219, .goto (-15), 3), (222, .return_, 1)]]
def xt_151 : xI := [[(0, .iload_n 0, 1), (1, .iload_n 1, 1), (2, .if_icmp .lt 12, 3), (5, .iload_n 0, 1), (6, .iload_n 2, 1), (7, .if_icmp .gt 7, 3), (10, .iconst 1, 1), (11, .goto 4, 3), (14, .iconst 0, 1), (15, .ireturn, 1)]]
def xt_152 : xI := [[(0, .iload_n 0, 1), (1, .iload_n 1, 1), (2, .ishr, 1), (3, .iconst 1, 1), (4, .iand, 1), (5, .iconst 1, 1), (6, .if_icmp .ne 7, 3), (9, .iconst 1, 1), (10, .goto 4, 3), (13, .iconst 0, 1), (14, .ireturn, 1)]]
def xt_153 : xI := [[(0, .aload_n 0, 1), (1, .iload_n 1, 1), (2, .putfield 71, 3), (5, .aload_n 0, 1), (6, .getfield 59, 3), (9, .iload_n 1, 1), (10, .dup2, 1), (11, .iaload, 1), (12, .iconst 1, 1), (13, .iadd, 1), (14, .iastore, 1), (15, .bipush (-3), 2)], [(17, .ireturn, 1)]]
def xt_154 : xI := [[(0, .aload_n 0, 1), (1, .iload_n 1, 1), (2, .putfield 75, 3), (5, .iconst 1, 1), (6, .ireturn, 1)]]
def xt_155 : xI := [[(0, .lload_n 1, 1), (1, .lstore 5, 2), (3, .lload_n 3, 1), (4, .lstore 7, 2), (6, .lload 7, 2), (8, .lconst 0, 1), (9, .lcmp, 1), (10, .ifCond .le 21, 3), (13, .lload 5, 2), (15, .lload 7, 2)], [(17, .lrem, 1), (18, .lstore 9, 2), (20, .lload 7, 2), (22, .lstore 5, 2), (24, .lload 9, 2), (26, .lstore 7, 2), (28, .goto (-22), 3), (31, .aload_n 0, 1)], [(32, .lload_n 1, 1), (33, .lload 5, 2), (35, .ldiv, 1), (36, .putfield 78, 3), (39, .aload_n 0, 1), (40, .lload_n 3, 1), (41, .lload 5, 2), (43, .ldiv, 1), (44, .putfield 55, 3), (47, .return_, 1)]]
def xt_156 : xI := [[(0, .iload_n 0, 1), (1, .iconst 0, 1), (2, .iconst 5, 1), (3, .invokestatic 81, 3), (6, .ireturn, 1)]]
def xt_157 : xI := [[(0, .iload_n 0, 1), (1, .iconst 0, 1), (2, .iconst 3, 1), (3, .invokestatic 81, 3), (6, .ireturn, 1)]]
def xt_158 : xI := [[(0, .iload_n 1, 1), (1, .invokestatic 85, 3), (4, .ifCond .eq 9, 3), (7, .iload_n 2, 1), (8, .bipush 40, 2), (10, .if_icmp .le 5, 3), (13, .iconst (-1), 1), (14, .ireturn, 1), (15, .iload_n 2, 1)], [(16, .ifCond .ge 9, 3), (19, .aload_n 0, 1), (20, .iconst 5, 1), (21, .invokevirtual 89, 3), (24, .ireturn, 1), (25, .aload_n 0, 1), (26, .getfield 7, 3), (29, .iload_n 1, 1), (30, .iload_n 2, 1), (31, .iastore, 1)], [(32, .iconst 0, 1), (33, .istore_n 3, 1), (34, .iload_n 3, 1), (35, .iload_n 2, 1), (36, .if_icmp .ge 21, 3), (39, .aload_n 0, 1), (40, .getfield 13, 3), (43, .bipush 40, 2), (45, .iload_n 1, 1), (46, .imul, 1), (47, .iload_n 3, 1)], [(48, .iadd, 1), (49, .iconst 0, 1), (50, .iastore, 1), (51, .iinc 3 1, 3), (54, .goto (-20), 3), (57, .iload_n 2, 1), (58, .ireturn, 1)]]
def xt_159 : xI := [[(0, .iload_n 1, 1), (1, .invokestatic 85, 3), (4, .ifCond .ne 5, 3), (7, .iconst (-1), 1), (8, .ireturn, 1), (9, .aload_n 0, 1), (10, .getfield 7, 3), (13, .iload_n 1, 1), (14, .iaload, 1), (15, .ifCond .ge 9, 3)], [(18, .aload_n 0, 1), (19, .iconst 1, 1), (20, .invokevirtual 89, 3), (23, .ireturn, 1), (24, .iload_n 2, 1), (25, .iconst 0, 1), (26, .aload_n 0, 1), (27, .getfield 7, 3), (30, .iload_n 1, 1), (31, .iaload, 1)], [(32, .iconst 1, 1), (33, .isub, 1), (34, .invokestatic 81, 3), (37, .ifCond .eq 7, 3), (40, .iconst 0, 1), (41, .goto 8, 3), (44, .aload_n 0, 1), (45, .iconst 2, 1), (46, .invokevirtual 89, 3)], [(49, .ireturn, 1)]]
def xt_160 : xI := [[(0, .aload_n 0, 1), (1, .iload_n 1, 1), (2, .iload_n 2, 1), (3, .invokevirtual 93, 3), (6, .istore 4, 2), (8, .iload 4, 2), (10, .ifCond .ge 6, 3), (13, .iload 4, 2), (15, .ireturn, 1)], [(16, .aload_n 0, 1), (17, .getfield 13, 3), (20, .bipush 40, 2), (22, .iload_n 1, 1), (23, .imul, 1), (24, .iload_n 2, 1), (25, .iadd, 1), (26, .iaload, 1), (27, .istore 5, 2), (29, .aload_n 0, 1), (30, .getfield 13, 3)], [(33, .bipush 40, 2), (35, .iload_n 1, 1), (36, .imul, 1), (37, .iload_n 2, 1), (38, .iadd, 1), (39, .iload_n 3, 1), (40, .iastore, 1), (41, .aload_n 0, 1), (42, .iload 5, 2), (44, .invokevirtual 97, 3), (47, .ireturn, 1)]]
def xt_161 : xI := [[(0, .aload_n 0, 1), (1, .iload_n 1, 1), (2, .iload_n 2, 1), (3, .invokevirtual 93, 3), (6, .istore_n 3, 1), (7, .iload_n 3, 1), (8, .ifCond .ge 7, 3), (11, .iload_n 3, 1), (12, .goto 18, 3), (15, .aload_n 0, 1)], [(16, .aload_n 0, 1), (17, .getfield 13, 3), (20, .bipush 40, 2), (22, .iload_n 1, 1), (23, .imul, 1), (24, .iload_n 2, 1), (25, .iadd, 1), (26, .iaload, 1), (27, .invokevirtual 97, 3), (30, .ireturn, 1)]]
def xt_162 : xI := [[(0, .iload_n 1, 1), (1, .invokestatic 85, 3), (4, .ifCond .ne 5, 3), (7, .iconst (-1), 1), (8, .ireturn, 1), (9, .aload_n 0, 1), (10, .getfield 7, 3), (13, .iload_n 1, 1), (14, .iaload, 1), (15, .ifCond .ge 9, 3)], [(18, .aload_n 0, 1), (19, .iconst 1, 1), (20, .invokevirtual 89, 3), (23, .ireturn, 1), (24, .aload_n 0, 1), (25, .getfield 7, 3), (28, .iload_n 1, 1), (29, .iconst (-1), 1), (30, .iastore, 1), (31, .iconst 1, 1)], [(32, .ireturn, 1)]]
def xt_163 : xI := [[(0, .iload_n 0, 1), (1, .ifCond .lt 19, 3), (4, .iload_n 1, 1), (5, .iload_n 2, 1), (6, .if_icmp .gt 14, 3), (9, .iload_n 0, 1), (10, .iload_n 2, 1), (11, .iload_n 1, 1), (12, .isub, 1), (13, .if_icmp .gt 7, 3)], [(16, .iconst 1, 1), (17, .goto 4, 3), (20, .iconst 0, 1), (21, .ireturn, 1)]]
def xt_164 : xI := [[(0, .iload_n 1, 1), (1, .invokestatic 85, 3), (4, .ifCond .eq 10, 3), (7, .iload_n 3, 1), (8, .invokestatic 85, 3), (11, .ifCond .ne 5, 3), (14, .iconst (-1), 1), (15, .ireturn, 1)], [(16, .iload 5, 2), (18, .ifCond .ge 9, 3), (21, .aload_n 0, 1), (22, .iconst 5, 1), (23, .invokevirtual 89, 3), (26, .ireturn, 1), (27, .aload_n 0, 1), (28, .getfield 7, 3), (31, .iload_n 1, 1)], [(32, .iaload, 1), (33, .ifCond .lt 12, 3), (36, .aload_n 0, 1), (37, .getfield 7, 3), (40, .iload_n 3, 1), (41, .iaload, 1), (42, .ifCond .ge 9, 3), (45, .aload_n 0, 1), (46, .iconst 1, 1), (47, .invokevirtual 89, 3)], [(50, .ireturn, 1), (51, .iload_n 2, 1), (52, .iload 5, 2), (54, .aload_n 0, 1), (55, .getfield 7, 3), (58, .iload_n 1, 1), (59, .iaload, 1), (60, .invokestatic 100, 3), (63, .ifCond .eq 19, 3)], [(66, .iload 4, 2), (68, .iload 5, 2), (70, .aload_n 0, 1), (71, .getfield 7, 3), (74, .iload_n 3, 1), (75, .iaload, 1), (76, .invokestatic 100, 3), (79, .ifCond .ne 9, 3)], [(82, .aload_n 0, 1), (83, .iconst 2, 1), (84, .invokevirtual 89, 3), (87, .ireturn, 1), (88, .iload_n 1, 1), (89, .iload_n 3, 1), (90, .if_icmp .ne 13, 3), (93, .iload 4, 2), (95, .iload_n 2, 1)], [(96, .if_icmp .le 7, 3), (99, .iconst 1, 1), (100, .goto 4, 3), (103, .iconst 0, 1), (104, .istore 6, 2), (106, .iconst 0, 1), (107, .istore 7, 2), (109, .iload 7, 2), (111, .iload 5, 2)], [(113, .if_icmp .ge 57, 3), (116, .iload 6, 2), (118, .ifCond .eq 13, 3), (121, .iload 5, 2), (123, .iconst 1, 1), (124, .isub, 1), (125, .iload 7, 2), (127, .isub, 1)], [(128, .goto 5, 3), (131, .iload 7, 2), (133, .istore 8, 2), (135, .aload_n 0, 1), (136, .getfield 13, 3), (139, .bipush 40, 2), (141, .iload_n 3, 1), (142, .imul, 1), (143, .iload 4, 2)], [(145, .iadd, 1), (146, .iload 8, 2), (148, .iadd, 1), (149, .aload_n 0, 1), (150, .getfield 13, 3), (153, .bipush 40, 2), (155, .iload_n 1, 1), (156, .imul, 1), (157, .iload_n 2, 1), (158, .iadd, 1), (159, .iload 8, 2)], [(161, .iadd, 1), (162, .iaload, 1), (163, .iastore, 1), (164, .iinc 7 1, 3), (167, .goto (-58), 3), (170, .iconst 1, 1), (171, .ireturn, 1)]]
def xt_165 : xI := [[(0, .iload_n 1, 1), (1, .invokestatic 85, 3), (4, .ifCond .ne 5, 3), (7, .iconst (-1), 1), (8, .ireturn, 1), (9, .aload_n 0, 1), (10, .getfield 7, 3), (13, .iload_n 1, 1), (14, .iaload, 1), (15, .ifCond .ge 9, 3)], [(18, .aload_n 0, 1), (19, .iconst 1, 1), (20, .invokevirtual 89, 3), (23, .ireturn, 1), (24, .aload_n 0, 1), (25, .getfield 7, 3), (28, .iload_n 1, 1), (29, .iaload, 1), (30, .ifCond .ne 9, 3)], [(33, .aload_n 0, 1), (34, .iconst 4, 1), (35, .invokevirtual 89, 3), (38, .ireturn, 1), (39, .lconst 0, 1), (40, .lstore_n 2, 1), (41, .iconst 0, 1), (42, .istore 4, 2), (44, .iload 4, 2), (46, .aload_n 0, 1), (47, .getfield 7, 3)], [(50, .iload_n 1, 1), (51, .iaload, 1), (52, .if_icmp .ge 25, 3), (55, .lload_n 2, 1), (56, .aload_n 0, 1), (57, .getfield 13, 3), (60, .bipush 40, 2), (62, .iload_n 1, 1), (63, .imul, 1)], [(64, .iload 4, 2), (66, .iadd, 1), (67, .iaload, 1), (68, .i2l, 1), (69, .ladd, 1), (70, .lstore_n 2, 1), (71, .iinc 4 1, 3), (74, .goto (-30), 3), (77, .aload_n 0, 1), (78, .lload_n 2, 1), (79, .aload_n 0, 1)], [(80, .getfield 7, 3), (83, .iload_n 1, 1), (84, .iaload, 1), (85, .i2l, 1), (86, .ldiv, 1), (87, .l2i, 1), (88, .invokevirtual 97, 3), (91, .ireturn, 1)]]
def xt_166 : xI := [[(0, .iload_n 1, 1), (1, .invokestatic 103, 3), (4, .ifCond .eq 9, 3), (7, .iload_n 2, 1), (8, .bipush 60, 2), (10, .if_icmp .le 5, 3), (13, .iconst (-1), 1), (14, .ireturn, 1), (15, .iload_n 2, 1)], [(16, .ifCond .ge 9, 3), (19, .aload_n 0, 1), (20, .iconst 5, 1), (21, .invokevirtual 89, 3), (24, .ireturn, 1), (25, .aload_n 0, 1), (26, .getfield 16, 3), (29, .iload_n 1, 1), (30, .iload_n 2, 1), (31, .iastore, 1)], [(32, .iconst 0, 1), (33, .istore_n 3, 1), (34, .iload_n 3, 1), (35, .iload_n 2, 1), (36, .if_icmp .ge 22, 3), (39, .aload_n 0, 1), (40, .getfield 19, 3), (43, .bipush 60, 2), (45, .iload_n 1, 1), (46, .imul, 1), (47, .iload_n 3, 1)], [(48, .iadd, 1), (49, .bipush 32, 2), (51, .iastore, 1), (52, .iinc 3 1, 3), (55, .goto (-21), 3), (58, .iload_n 2, 1), (59, .ireturn, 1)]]
def xt_167 : xI := [[(0, .iload_n 1, 1), (1, .invokestatic 103, 3), (4, .ifCond .ne 5, 3), (7, .iconst (-1), 1), (8, .ireturn, 1), (9, .aload_n 0, 1), (10, .getfield 16, 3), (13, .iload_n 1, 1), (14, .iaload, 1), (15, .ifCond .ge 9, 3)], [(18, .aload_n 0, 1), (19, .iconst 1, 1), (20, .invokevirtual 89, 3), (23, .ireturn, 1), (24, .iload_n 2, 1), (25, .iconst 0, 1), (26, .aload_n 0, 1), (27, .getfield 16, 3), (30, .iload_n 1, 1), (31, .iaload, 1)], [(32, .iconst 1, 1), (33, .isub, 1), (34, .invokestatic 81, 3), (37, .ifCond .ne 9, 3), (40, .aload_n 0, 1), (41, .iconst 2, 1), (42, .invokevirtual 89, 3), (45, .ireturn, 1), (46, .aload_n 0, 1), (47, .getfield 19, 3)], [(50, .bipush 60, 2), (52, .iload_n 1, 1), (53, .imul, 1), (54, .iload_n 2, 1), (55, .iadd, 1), (56, .iaload, 1), (57, .istore 4, 2), (59, .aload_n 0, 1), (60, .getfield 19, 3), (63, .bipush 60, 2)], [(65, .iload_n 1, 1), (66, .imul, 1), (67, .iload_n 2, 1), (68, .iadd, 1), (69, .iload_n 3, 1), (70, .i2b, 1), (71, .iastore, 1), (72, .iload 4, 2), (74, .sipush 1000, 3), (77, .iadd, 1), (78, .ireturn, 1)]]
def xt_168 : xI := [[(0, .aload_n 0, 1), (1, .getfield 106, 3), (4, .aload_n 0, 1), (5, .getfield 109, 3), (8, .if_icmp .ge 20, 3), (11, .aload_n 0, 1), (12, .getfield 19, 3), (15, .aload_n 0, 1)], [(16, .getfield 112, 3), (19, .aload_n 0, 1), (20, .getfield 106, 3), (23, .iadd, 1), (24, .iaload, 1), (25, .goto 6, 3), (28, .sipush (-1000), 3), (31, .ireturn, 1)]]
def xt_169 : xI := [[(0, .aload_n 0, 1), (1, .invokevirtual 115, 3), (4, .bipush 32, 2), (6, .if_icmp .ne 16, 3), (9, .aload_n 0, 1), (10, .dup, 1), (11, .getfield 106, 3), (14, .iconst 1, 1), (15, .iadd, 1)], [(16, .putfield 106, 3), (19, .goto (-19), 3), (22, .return_, 1)]]
def xt_170 : xI := [[(0, .aload_n 0, 1), (1, .invokevirtual 115, 3), (4, .bipush 48, 2), (6, .isub, 1), (7, .istore_n 2, 1), (8, .iload_n 2, 1), (9, .iconst 0, 1), (10, .iload_n 1, 1), (11, .invokestatic 81, 3), (14, .ifCond .ne 5, 3)], [(17, .iconst (-1), 1), (18, .ireturn, 1), (19, .aload_n 0, 1), (20, .dup, 1), (21, .getfield 106, 3), (24, .iconst 1, 1), (25, .iadd, 1), (26, .putfield 106, 3), (29, .iload_n 2, 1), (30, .ireturn, 1)]]
def xt_171 : xI := [[(0, .iload_n 0, 1), (1, .bipush 103, 2), (3, .if_icmp .ne 7, 3), (6, .iconst 0, 1), (7, .goto 54, 3), (10, .iload_n 0, 1), (11, .bipush 108, 2), (13, .if_icmp .ne 7, 3)], [(16, .iconst 1, 1), (17, .goto 44, 3), (20, .iload_n 0, 1), (21, .bipush 116, 2), (23, .if_icmp .ne 7, 3), (26, .iconst 2, 1), (27, .goto 34, 3), (30, .iload_n 0, 1), (31, .bipush 111, 2)], [(33, .if_icmp .ne 7, 3), (36, .iconst 3, 1), (37, .goto 24, 3), (40, .iload_n 0, 1), (41, .bipush 105, 2), (43, .if_icmp .ne 7, 3), (46, .iconst 4, 1), (47, .goto 14, 3)], [(50, .iload_n 0, 1), (51, .bipush 102, 2), (53, .if_icmp .ne 7, 3), (56, .iconst 5, 1), (57, .goto 4, 3), (60, .iconst (-1), 1), (61, .ireturn, 1)]]
def xt_172 : xI := [[(0, .aload_n 0, 1), (1, .invokevirtual 119, 3), (4, .aload_n 0, 1), (5, .invokevirtual 115, 3), (8, .bipush 104, 2), (10, .if_icmp .eq 5, 3), (13, .iconst 0, 1), (14, .ireturn, 1), (15, .aload_n 0, 1)], [(16, .dup, 1), (17, .getfield 106, 3), (20, .iconst 1, 1), (21, .iadd, 1), (22, .putfield 106, 3), (25, .iconst 0, 1), (26, .istore_n 1, 1), (27, .iload_n 1, 1), (28, .bipush 6, 2), (30, .if_icmp .ge 28, 3)], [(33, .aload_n 0, 1), (34, .iconst 5, 1), (35, .invokevirtual 122, 3), (38, .istore_n 2, 1), (39, .iload_n 2, 1), (40, .ifCond .ge 5, 3), (43, .iconst 0, 1), (44, .ireturn, 1), (45, .aload_n 0, 1), (46, .getfield 22, 3)], [(49, .iload_n 1, 1), (50, .iload_n 2, 1), (51, .iastore, 1), (52, .iinc 1 1, 3), (55, .goto (-28), 3), (58, .iconst 1, 1), (59, .ireturn, 1)]]
def xt_173 : xI := [[(0, .aload_n 0, 1), (1, .getfield 125, 3), (4, .bipush 6, 2), (6, .if_icmp .eq 10, 3), (9, .aload_n 0, 1), (10, .getfield 128, 3), (13, .ifCond .le 5, 3)], [(16, .iconst 0, 1), (17, .ireturn, 1), (18, .aload_n 0, 1), (19, .invokevirtual 115, 3), (22, .invokestatic 131, 3), (25, .istore_n 1, 1), (26, .aload_n 0, 1), (27, .dup, 1), (28, .getfield 106, 3), (31, .iconst 1, 1)], [(32, .iadd, 1), (33, .putfield 106, 3), (36, .aload_n 0, 1), (37, .iconst 3, 1), (38, .invokevirtual 122, 3), (41, .istore_n 2, 1), (42, .iload_n 2, 1), (43, .ifCond .ge 5, 3), (46, .iconst 0, 1), (47, .ireturn, 1)], [(48, .aload_n 0, 1), (49, .getfield 25, 3), (52, .iconst 2, 1), (53, .aload_n 0, 1), (54, .getfield 125, 3), (57, .imul, 1), (58, .iload_n 1, 1), (59, .iastore, 1), (60, .aload_n 0, 1), (61, .getfield 25, 3)], [(64, .iconst 2, 1), (65, .aload_n 0, 1), (66, .getfield 125, 3), (69, .imul, 1), (70, .iconst 1, 1), (71, .iadd, 1), (72, .iload_n 2, 1), (73, .iastore, 1), (74, .aload_n 0, 1), (75, .dup, 1), (76, .getfield 125, 3), (79, .iconst 1, 1)], [(80, .iadd, 1), (81, .putfield 125, 3), (84, .iconst 1, 1), (85, .ireturn, 1)]]
def xt_174 : xI := [[(0, .aload_n 0, 1), (1, .getfield 128, 3), (4, .bipush 8, 2), (6, .if_icmp .eq 10, 3), (9, .aload_n 0, 1), (10, .getfield 125, 3), (13, .ifCond .ne 5, 3)], [(16, .iconst 0, 1), (17, .ireturn, 1), (18, .aload_n 0, 1), (19, .dup, 1), (20, .getfield 106, 3), (23, .iconst 1, 1), (24, .iadd, 1), (25, .putfield 106, 3), (28, .iconst 0, 1), (29, .istore_n 1, 1), (30, .iload_n 1, 1), (31, .iconst 2, 1)], [(32, .if_icmp .ge 35, 3), (35, .aload_n 0, 1), (36, .iconst 5, 1), (37, .invokevirtual 122, 3), (40, .istore_n 2, 1), (41, .iload_n 2, 1), (42, .ifCond .ge 5, 3), (45, .iconst 0, 1), (46, .ireturn, 1), (47, .aload_n 0, 1)], [(48, .getfield 28, 3), (51, .iconst 2, 1), (52, .aload_n 0, 1), (53, .getfield 128, 3), (56, .imul, 1), (57, .iload_n 1, 1), (58, .iadd, 1), (59, .iload_n 2, 1), (60, .iastore, 1), (61, .iinc 1 1, 3)], [(64, .goto (-34), 3), (67, .aload_n 0, 1), (68, .dup, 1), (69, .getfield 128, 3), (72, .iconst 1, 1), (73, .iadd, 1), (74, .putfield 128, 3), (77, .iconst 1, 1), (78, .ireturn, 1)]]
def xt_175 : xI := [[(0, .aload_n 0, 1), (1, .bipush 60, 2), (3, .iload_n 1, 1), (4, .imul, 1), (5, .putfield 112, 3), (8, .aload_n 0, 1), (9, .aload_n 0, 1), (10, .getfield 16, 3), (13, .iload_n 1, 1), (14, .iaload, 1), (15, .putfield 109, 3)], [(18, .aload_n 0, 1), (19, .iconst 0, 1), (20, .putfield 106, 3), (23, .aload_n 0, 1), (24, .iconst 0, 1), (25, .putfield 125, 3), (28, .aload_n 0, 1), (29, .iconst 0, 1), (30, .putfield 128, 3)], [(33, .aload_n 0, 1), (34, .invokevirtual 134, 3), (37, .ifCond .ne 5, 3), (40, .iconst 0, 1), (41, .ireturn, 1), (42, .aload_n 0, 1), (43, .invokevirtual 119, 3), (46, .aload_n 0, 1), (47, .getfield 106, 3)], [(50, .aload_n 0, 1), (51, .getfield 109, 3), (54, .if_icmp .ge 54, 3), (57, .aload_n 0, 1), (58, .invokevirtual 115, 3), (61, .istore_n 2, 1), (62, .iload_n 2, 1), (63, .invokestatic 131, 3)], [(66, .ifCond .lt 10, 3), (69, .aload_n 0, 1), (70, .invokevirtual 138, 3), (73, .goto 21, 3), (76, .iload_n 2, 1), (77, .bipush 110, 2), (79, .if_icmp .ne 14, 3)], [(82, .aload_n 0, 1), (83, .invokevirtual 141, 3), (86, .ifCond .eq 7, 3), (89, .iconst 1, 1), (90, .goto 4, 3), (93, .iconst 0, 1), (94, .istore_n 3, 1), (95, .iload_n 3, 1)], [(96, .ifCond .ne 5, 3), (99, .iconst 0, 1), (100, .ireturn, 1), (101, .aload_n 0, 1), (102, .invokevirtual 119, 3), (105, .goto (-59), 3), (108, .aload_n 0, 1), (109, .getfield 125, 3)], [(112, .ifCond .le 7, 3), (115, .iconst 1, 1), (116, .goto 4, 3), (119, .iconst 0, 1), (120, .ireturn, 1)]]
def xt_176 : xI := [[(0, .iload_n 1, 1), (1, .invokestatic 103, 3), (4, .ifCond .ne 5, 3), (7, .iconst (-1), 1), (8, .ireturn, 1), (9, .aload_n 0, 1), (10, .getfield 16, 3), (13, .iload_n 1, 1), (14, .iaload, 1), (15, .ifCond .ge 9, 3)], [(18, .aload_n 0, 1), (19, .iconst 1, 1), (20, .invokevirtual 89, 3), (23, .ireturn, 1), (24, .aload_n 0, 1), (25, .iload_n 1, 1), (26, .invokevirtual 144, 3), (29, .ifCond .eq 8, 3)], [(32, .bipush (-9), 2), (34, .goto 7, 3), (37, .aload_n 0, 1), (38, .getfield 106, 3), (41, .ireturn, 1)]]
def xt_177 : xI := [[(0, .iload_n 1, 1), (1, .invokestatic 103, 3), (4, .ifCond .ne 5, 3), (7, .iconst (-1), 1), (8, .ireturn, 1), (9, .aload_n 0, 1), (10, .getfield 16, 3), (13, .iload_n 1, 1), (14, .iaload, 1), (15, .ifCond .ge 9, 3)], [(18, .aload_n 0, 1), (19, .iconst 1, 1), (20, .invokevirtual 89, 3), (23, .ireturn, 1), (24, .aload_n 0, 1), (25, .iload_n 1, 1), (26, .invokevirtual 144, 3), (29, .ifCond .ne 6, 3)], [(32, .bipush (-4), 2), (34, .ireturn, 1), (35, .aload_n 0, 1), (36, .aload_n 0, 1), (37, .getfield 125, 3), (40, .putfield 147, 3), (43, .aload_n 0, 1), (44, .aload_n 0, 1), (45, .getfield 128, 3)], [(48, .putfield 150, 3), (51, .aload_n 0, 1), (52, .iconst 0, 1), (53, .putfield 153, 3), (56, .iconst 0, 1), (57, .istore_n 2, 1), (58, .iload_n 2, 1), (59, .bipush 6, 2), (61, .if_icmp .ge 21, 3)], [(64, .aload_n 0, 1), (65, .getfield 31, 3), (68, .iload_n 2, 1), (69, .aload_n 0, 1), (70, .getfield 22, 3), (73, .iload_n 2, 1), (74, .iaload, 1), (75, .iastore, 1), (76, .iinc 2 1, 3), (79, .goto (-21), 3)], [(82, .iconst 0, 1), (83, .istore_n 2, 1), (84, .iload_n 2, 1), (85, .iconst 2, 1), (86, .aload_n 0, 1), (87, .getfield 147, 3), (90, .imul, 1), (91, .if_icmp .ge 21, 3), (94, .aload_n 0, 1), (95, .getfield 34, 3)], [(98, .iload_n 2, 1), (99, .aload_n 0, 1), (100, .getfield 25, 3), (103, .iload_n 2, 1), (104, .iaload, 1), (105, .iastore, 1), (106, .iinc 2 1, 3), (109, .goto (-25), 3)], [(112, .iconst 0, 1), (113, .istore_n 2, 1), (114, .iload_n 2, 1), (115, .iconst 2, 1), (116, .aload_n 0, 1), (117, .getfield 150, 3), (120, .imul, 1), (121, .if_icmp .ge 21, 3), (124, .aload_n 0, 1), (125, .getfield 37, 3)], [(128, .iload_n 2, 1), (129, .aload_n 0, 1), (130, .getfield 28, 3), (133, .iload_n 2, 1), (134, .iaload, 1), (135, .iastore, 1), (136, .iinc 2 1, 3), (139, .goto (-25), 3), (142, .iconst 0, 1), (143, .istore_n 2, 1)], [(144, .iload_n 2, 1), (145, .iconst 3, 1), (146, .if_icmp .ge 16, 3), (149, .aload_n 0, 1), (150, .getfield 46, 3), (153, .iload_n 2, 1), (154, .iconst (-1), 1), (155, .iastore, 1), (156, .iinc 2 1, 3), (159, .goto (-15), 3)], [(162, .aload_n 0, 1), (163, .getfield 147, 3), (166, .ireturn, 1)]]
def xt_178 : xI := [[(0, .iload_n 1, 1), (1, .iconst 0, 1), (2, .aload_n 0, 1), (3, .getfield 147, 3), (6, .iconst 1, 1), (7, .isub, 1), (8, .invokestatic 81, 3), (11, .ireturn, 1)]]
def xt_179 : xI := [[(0, .iload_n 0, 1), (1, .iconst 0, 1), (2, .iconst 5, 1), (3, .invokestatic 81, 3), (6, .ireturn, 1)]]
def xt_180 : xI := [[(0, .iload_n 0, 1), (1, .iconst 1, 1), (2, .if_icmp .ne 7, 3), (5, .iconst 2, 1), (6, .goto 13, 3), (9, .iload_n 0, 1), (10, .iconst 2, 1), (11, .if_icmp .ne 7, 3), (14, .iconst 1, 1), (15, .goto 4, 3)], [(18, .iload_n 0, 1), (19, .ireturn, 1)]]
def xt_181 : xI := [[(0, .iload_n 1, 1), (1, .iconst 1, 1), (2, .if_icmp .eq 8, 3), (5, .iload_n 1, 1), (6, .iconst 4, 1), (7, .if_icmp .ne 7, 3), (10, .iconst 1, 1), (11, .goto 4, 3), (14, .iconst 0, 1), (15, .istore 5, 2)], [(17, .iload 5, 2), (19, .ifCond .eq 10, 3), (22, .iload 4, 2), (24, .iload_n 2, 1), (25, .isub, 1), (26, .goto 5, 3), (29, .iload 4, 2), (31, .istore 6, 2)], [(33, .iload 6, 2), (35, .ifCond .ge 7, 3), (38, .iconst 0, 1), (39, .goto 7, 3), (42, .aload_n 3, 1), (43, .iload 6, 2), (45, .iaload, 1), (46, .istore 7, 2)], [(48, .iload_n 1, 1), (49, .iconst 4, 1), (50, .if_icmp .ne 11, 3), (53, .iload 4, 2), (55, .iconst 3, 1), (56, .irem, 1), (57, .iconst 2, 1), (58, .if_icmp .eq 16, 3), (61, .iload_n 1, 1), (62, .iconst 2, 1), (63, .if_icmp .ne 13, 3)], [(66, .iload 4, 2), (68, .iconst 2, 1), (69, .irem, 1), (70, .iconst 1, 1), (71, .if_icmp .ne 5, 3), (74, .iconst 0, 1), (75, .ireturn, 1), (76, .iload_n 1, 1), (77, .iconst 3, 1), (78, .if_icmp .eq 16, 3)], [(81, .iload_n 1, 1), (82, .iconst 5, 1), (83, .if_icmp .ne 15, 3), (86, .iload 4, 2), (88, .iconst 2, 1), (89, .irem, 1), (90, .iconst 1, 1), (91, .if_icmp .ne 7, 3), (94, .iconst 1, 1), (95, .goto 4, 3)], [(98, .iconst 0, 1), (99, .istore 8, 2), (101, .iload 8, 2), (103, .ifCond .eq 13, 3), (106, .aload_n 0, 1), (107, .getfield 31, 3), (110, .iload 7, 2)], [(112, .iaload, 1), (113, .goto 5, 3), (116, .iload 7, 2), (118, .invokestatic 156, 3), (121, .ireturn, 1)]]
def xt_182 : xI := [[(0, .aload_n 0, 1), (1, .aload_n 0, 1), (2, .getfield 34, 3), (5, .iconst 2, 1), (6, .iload_n 1, 1), (7, .imul, 1), (8, .iaload, 1), (9, .aload_n 0, 1), (10, .getfield 34, 3), (13, .iconst 2, 1), (14, .iload_n 1, 1), (15, .imul, 1)], [(16, .iconst 1, 1), (17, .iadd, 1), (18, .iaload, 1), (19, .aload_n 2, 1), (20, .iload_n 3, 1), (21, .invokevirtual 159, 3), (24, .ireturn, 1)]]
def xt_183 : xI := [[(0, .iconst 0, 1), (1, .istore_n 3, 1), (2, .iload_n 3, 1), (3, .aload_n 0, 1), (4, .getfield 150, 3), (7, .if_icmp .ge 37, 3), (10, .aload_n 0, 1), (11, .getfield 37, 3), (14, .iconst 2, 1), (15, .iload_n 3, 1)], [(16, .imul, 1), (17, .iaload, 1), (18, .iload_n 1, 1), (19, .if_icmp .ne 19, 3), (22, .aload_n 0, 1), (23, .getfield 37, 3), (26, .iconst 2, 1), (27, .iload_n 3, 1), (28, .imul, 1), (29, .iconst 1, 1), (30, .iadd, 1), (31, .iaload, 1)], [(32, .iload_n 2, 1), (33, .if_icmp .ne 5, 3), (36, .iload_n 3, 1), (37, .ireturn, 1), (38, .iinc 3 1, 3), (41, .goto (-39), 3), (44, .bipush (-9), 2), (46, .ireturn, 1)]]
def xt_184 : xI := [[(0, .aload_n 0, 1), (1, .aload_n 0, 1), (2, .getfield 43, 3), (5, .iload_n 1, 1), (6, .iaload, 1), (7, .aload_n 0, 1), (8, .getfield 40, 3), (11, .iload_n 1, 1), (12, .invokevirtual 163, 3), (15, .ireturn, 1)]]
def xt_185 : xI := [[(0, .aload_n 0, 1), (1, .aload_n 0, 1), (2, .getfield 40, 3), (5, .iload_n 1, 1), (6, .iaload, 1), (7, .aload_n 0, 1), (8, .iload_n 1, 1), (9, .invokevirtual 167, 3), (12, .invokevirtual 170, 3), (15, .ireturn, 1)]]
def xt_186 : xI := [[(0, .iload_n 0, 1), (1, .iload_n 1, 1), (2, .if_icmp .eq 23, 3), (5, .iload_n 0, 1), (6, .iconst 4, 1), (7, .if_icmp .ne 8, 3), (10, .iload_n 1, 1), (11, .iconst 1, 1), (12, .if_icmp .eq 13, 3), (15, .iload_n 0, 1)], [(16, .iconst 5, 1), (17, .if_icmp .ne 12, 3), (20, .iload_n 1, 1), (21, .iconst 2, 1), (22, .if_icmp .ne 7, 3), (25, .iconst 1, 1), (26, .goto 4, 3), (29, .iconst 0, 1), (30, .ireturn, 1)]]
def xt_187 : xI := [[(0, .aload_n 0, 1), (1, .iload_n 1, 1), (2, .invokevirtual 173, 3), (5, .ifCond .eq 12, 3), (8, .iload_n 2, 1), (9, .iconst 0, 1), (10, .iconst 3, 1), (11, .invokestatic 81, 3), (14, .ifCond .ne 5, 3)], [(17, .iconst (-1), 1), (18, .ireturn, 1), (19, .iload_n 2, 1), (20, .iconst 2, 1), (21, .if_icmp .ge 18, 3), (24, .aload_n 0, 1), (25, .aload_n 0, 1), (26, .getfield 34, 3), (29, .iconst 2, 1), (30, .iload_n 1, 1), (31, .imul, 1)], [(32, .iload_n 2, 1), (33, .iadd, 1), (34, .iaload, 1), (35, .invokevirtual 97, 3), (38, .ireturn, 1), (39, .iconst 0, 1), (40, .istore_n 3, 1), (41, .iconst 0, 1), (42, .istore 4, 2), (44, .iload 4, 2), (46, .aload_n 0, 1), (47, .getfield 153, 3)], [(50, .if_icmp .ge 44, 3), (53, .iload_n 3, 1), (54, .aload_n 0, 1), (55, .getfield 43, 3), (58, .iload 4, 2), (60, .iaload, 1), (61, .iload_n 1, 1), (62, .if_icmp .ne 23, 3)], [(65, .iload_n 2, 1), (66, .iconst 2, 1), (67, .if_icmp .eq 14, 3), (70, .aload_n 0, 1), (71, .iload 4, 2), (73, .invokevirtual 176, 3), (76, .bipush (-9), 2), (78, .if_icmp .eq 7, 3)], [(81, .iconst 1, 1), (82, .goto 4, 3), (85, .iconst 0, 1), (86, .iadd, 1), (87, .istore_n 3, 1), (88, .iinc 4 1, 3), (91, .goto (-47), 3), (94, .aload_n 0, 1), (95, .iload_n 3, 1)], [(96, .invokevirtual 97, 3), (99, .ireturn, 1)]]
def xt_188 : xI := [[(0, .aload_n 0, 1), (1, .iload_n 1, 1), (2, .invokevirtual 173, 3), (5, .ifCond .eq 12, 3), (8, .iload_n 2, 1), (9, .iconst 1, 1), (10, .iconst 5, 1), (11, .invokestatic 81, 3), (14, .ifCond .ne 5, 3)], [(17, .iconst (-1), 1), (18, .ireturn, 1), (19, .aload_n 0, 1), (20, .getfield 34, 3), (23, .iconst 2, 1), (24, .iload_n 1, 1), (25, .imul, 1), (26, .iaload, 1), (27, .iload_n 2, 1), (28, .invokestatic 179, 3), (31, .ifCond .ne 9, 3)], [(34, .aload_n 0, 1), (35, .iconst 3, 1), (36, .invokevirtual 89, 3), (39, .ireturn, 1), (40, .iconst 0, 1), (41, .istore_n 3, 1), (42, .iload_n 2, 1), (43, .tableswitch 148 1 4 #[29, 61, 103, 139], 29)], [], [(72, .aload_n 0, 1), (73, .getfield 34, 3), (76, .iconst 2, 1), (77, .iload_n 1, 1), (78, .imul, 1), (79, .iconst 1, 1)], [(80, .iadd, 1), (81, .iaload, 1), (82, .ifCond .ne 8, 3), (85, .bipush (-9), 2), (87, .goto 16, 3), (90, .aload_n 0, 1), (91, .iload_n 1, 1), (92, .aload_n 0, 1), (93, .getfield 40, 3)], [(96, .aload_n 0, 1), (97, .getfield 153, 3), (100, .invokevirtual 163, 3), (103, .ireturn, 1), (104, .iconst 0, 1), (105, .istore 4, 2), (107, .iload 4, 2), (109, .aload_n 0, 1), (110, .getfield 153, 3)], [(113, .if_icmp .ge 31, 3), (116, .iload_n 3, 1), (117, .aload_n 0, 1), (118, .iload_n 1, 1), (119, .aload_n 0, 1), (120, .getfield 40, 3), (123, .iload 4, 2), (125, .invokevirtual 163, 3)], [(128, .ifCond .ne 7, 3), (131, .iconst 1, 1), (132, .goto 4, 3), (135, .iconst 0, 1), (136, .iadd, 1), (137, .istore_n 3, 1), (138, .iinc 4 1, 3), (141, .goto (-34), 3)], [(144, .iload_n 3, 1), (145, .ireturn, 1), (146, .iconst 0, 1), (147, .istore 4, 2), (149, .iload 4, 2), (151, .bipush 6, 2), (153, .if_icmp .ge 27, 3), (156, .iload_n 3, 1), (157, .aload_n 0, 1), (158, .getfield 31, 3)], [(161, .iload 4, 2), (163, .iaload, 1), (164, .ifCond .ne 7, 3), (167, .iconst 1, 1), (168, .goto 4, 3), (171, .iconst 0, 1), (172, .iadd, 1), (173, .istore_n 3, 1), (174, .iinc 4 1, 3)], [(177, .goto (-28), 3), (180, .iload_n 3, 1), (181, .ireturn, 1), (182, .iconst 2, 1), (183, .aload_n 0, 1), (184, .getfield 153, 3), (187, .iconst 3, 1), (188, .irem, 1), (189, .isub, 1), (190, .ireturn, 1), (191, .aload_n 0, 1)], [(192, .getfield 153, 3), (195, .iconst 2, 1), (196, .irem, 1), (197, .iconst 1, 1), (198, .if_icmp .ne 15, 3), (201, .aload_n 0, 1), (202, .getfield 31, 3), (205, .iconst 0, 1), (206, .iaload, 1), (207, .invokestatic 156, 3)], [(210, .goto 4, 3), (213, .iconst 0, 1), (214, .ireturn, 1)]]
def xt_189 : xI := [[(0, .iload_n 1, 1), (1, .invokestatic 183, 3), (4, .ifCond .eq 12, 3), (7, .aload_n 0, 1), (8, .getfield 31, 3), (11, .iload_n 1, 1), (12, .iaload, 1), (13, .goto 4, 3)], [(16, .iconst (-1), 1), (17, .ireturn, 1)]]
def xt_190 : xI := [[(0, .iload_n 1, 1), (1, .iconst 0, 1), (2, .aload_n 0, 1), (3, .getfield 150, 3), (6, .iconst 1, 1), (7, .isub, 1), (8, .invokestatic 81, 3), (11, .ifCond .eq 25, 3), (14, .iload_n 2, 1), (15, .iconst 0, 1)], [(16, .iconst 1, 1), (17, .invokestatic 81, 3), (20, .ifCond .eq 16, 3), (23, .aload_n 0, 1), (24, .getfield 37, 3), (27, .iconst 2, 1), (28, .iload_n 1, 1), (29, .imul, 1), (30, .iload_n 2, 1), (31, .iadd, 1)], [(32, .iaload, 1), (33, .goto 4, 3), (36, .iconst (-1), 1), (37, .ireturn, 1)]]
def xt_191 : xI := [[(0, .aload_n 0, 1), (1, .getfield 40, 3), (4, .aload_n 0, 1), (5, .getfield 153, 3), (8, .iload_n 2, 1), (9, .iastore, 1), (10, .aload_n 0, 1), (11, .getfield 43, 3), (14, .aload_n 0, 1), (15, .getfield 153, 3)], [(18, .iload_n 1, 1), (19, .iastore, 1), (20, .aload_n 0, 1), (21, .dup, 1), (22, .getfield 153, 3), (25, .iconst 1, 1), (26, .iadd, 1), (27, .putfield 153, 3), (30, .aload_n 0, 1), (31, .aload_n 0, 1)], [(32, .getfield 153, 3), (35, .iconst 1, 1), (36, .isub, 1), (37, .invokevirtual 167, 3), (40, .ireturn, 1)]]
def xt_192 : xI := [[(0, .aload_n 0, 1), (1, .iload_n 1, 1), (2, .invokevirtual 173, 3), (5, .ifCond .eq 10, 3), (8, .iload_n 2, 1), (9, .invokestatic 183, 3), (12, .ifCond .ne 5, 3), (15, .iconst (-1), 1)], [(16, .ireturn, 1), (17, .aload_n 0, 1), (18, .getfield 153, 3), (21, .bipush 40, 2), (23, .if_icmp .ne 8, 3), (26, .bipush (-2), 2), (28, .goto 9, 3), (31, .aload_n 0, 1)], [(32, .iload_n 1, 1), (33, .iload_n 2, 1), (34, .invokevirtual 186, 3), (37, .ireturn, 1)]]
def xt_193 : xI := [[(0, .iload_n 1, 1), (1, .iconst 0, 1), (2, .aload_n 0, 1), (3, .getfield 153, 3), (6, .iconst 1, 1), (7, .isub, 1), (8, .invokestatic 81, 3), (11, .ifCond .eq 12, 3), (14, .iload_n 2, 1), (15, .iconst 0, 1)], [(16, .iconst 3, 1), (17, .invokestatic 81, 3), (20, .ifCond .ne 5, 3), (23, .iconst (-1), 1), (24, .ireturn, 1), (25, .aload_n 0, 1), (26, .iload_n 2, 1), (27, .ifCond .ne 12, 3), (30, .aload_n 0, 1), (31, .getfield 40, 3)], [(34, .iload_n 1, 1), (35, .iaload, 1), (36, .goto 35, 3), (39, .iload_n 2, 1), (40, .iconst 1, 1), (41, .if_icmp .ne 12, 3), (44, .aload_n 0, 1), (45, .getfield 43, 3)], [(48, .iload_n 1, 1), (49, .iaload, 1), (50, .goto 21, 3), (53, .iload_n 2, 1), (54, .iconst 2, 1), (55, .if_icmp .ne 11, 3), (58, .aload_n 0, 1), (59, .iload_n 1, 1), (60, .invokevirtual 167, 3), (63, .goto 8, 3)], [(66, .aload_n 0, 1), (67, .iload_n 1, 1), (68, .invokevirtual 176, 3), (71, .invokevirtual 97, 3), (74, .ireturn, 1)]]
def xt_194 : xI := [[(0, .iconst 0, 1), (1, .istore_n 1, 1), (2, .iconst 0, 1), (3, .istore_n 2, 1), (4, .iload_n 2, 1), (5, .aload_n 0, 1), (6, .getfield 153, 3), (9, .if_icmp .ge 27, 3), (12, .iload_n 1, 1), (13, .aload_n 0, 1), (14, .iload_n 2, 1), (15, .invokevirtual 176, 3)], [(18, .bipush (-9), 2), (20, .if_icmp .ne 7, 3), (23, .iconst 0, 1), (24, .goto 4, 3), (27, .iconst 1, 1), (28, .iadd, 1), (29, .istore_n 1, 1), (30, .iinc 2 1, 3)], [(33, .goto (-29), 3), (36, .iload_n 1, 1), (37, .ireturn, 1)]]
def xt_195 : xI := [[(0, .bipush (-9), 2), (2, .istore_n 1, 1), (3, .aload_n 0, 1), (4, .getfield 153, 3), (7, .iconst 1, 1), (8, .isub, 1), (9, .istore_n 2, 1), (10, .iload_n 2, 1), (11, .ifCond .lt 25, 3), (14, .aload_n 0, 1), (15, .iload_n 2, 1)], [(16, .invokevirtual 176, 3), (19, .bipush (-9), 2), (21, .if_icmp .ne 7, 3), (24, .iload_n 1, 1), (25, .goto 4, 3), (28, .iload_n 2, 1), (29, .istore_n 1, 1), (30, .iinc 2 (-1), 3)], [(33, .goto (-23), 3), (36, .aload_n 0, 1), (37, .iload_n 1, 1), (38, .putfield 75, 3), (41, .aload_n 0, 1), (42, .invokevirtual 189, 3), (45, .ireturn, 1)]]
def xt_196 : xI := [[(0, .iload_n 1, 1), (1, .iconst 0, 1), (2, .aload_n 0, 1), (3, .getfield 153, 3), (6, .invokestatic 81, 3), (9, .ifCond .ne 5, 3), (12, .iconst (-1), 1), (13, .ireturn, 1), (14, .aload_n 0, 1), (15, .getfield 153, 3)], [(18, .iload_n 1, 1), (19, .isub, 1), (20, .istore_n 2, 1), (21, .aload_n 0, 1), (22, .iload_n 1, 1), (23, .putfield 153, 3), (26, .iload_n 2, 1), (27, .ireturn, 1)]]
def xt_197 : xI := [[(0, .iload_n 1, 1), (1, .iconst 0, 1), (2, .iconst 2, 1), (3, .invokestatic 81, 3), (6, .ifCond .ne 5, 3), (9, .iconst (-1), 1), (10, .ireturn, 1), (11, .aload_n 0, 1), (12, .getfield 147, 3), (15, .ifCond .ne 6, 3)], [(18, .bipush (-4), 2), (20, .ireturn, 1), (21, .aload_n 0, 1), (22, .getfield 46, 3), (25, .iload_n 1, 1), (26, .aload_n 0, 1), (27, .getfield 153, 3), (30, .iastore, 1), (31, .iconst 0, 1)], [(32, .istore_n 2, 1), (33, .iload_n 2, 1), (34, .aload_n 0, 1), (35, .getfield 153, 3), (38, .if_icmp .ge 43, 3), (41, .aload_n 0, 1), (42, .getfield 49, 3), (45, .bipush 40, 2), (47, .iload_n 1, 1)], [(48, .imul, 1), (49, .iload_n 2, 1), (50, .iadd, 1), (51, .aload_n 0, 1), (52, .getfield 40, 3), (55, .iload_n 2, 1), (56, .iaload, 1), (57, .iastore, 1), (58, .aload_n 0, 1), (59, .getfield 52, 3), (62, .bipush 40, 2)], [(64, .iload_n 1, 1), (65, .imul, 1), (66, .iload_n 2, 1), (67, .iadd, 1), (68, .aload_n 0, 1), (69, .getfield 43, 3), (72, .iload_n 2, 1), (73, .iaload, 1), (74, .iastore, 1), (75, .iinc 2 1, 3), (78, .goto (-45), 3)], [(81, .aload_n 0, 1), (82, .getfield 153, 3), (85, .ireturn, 1)]]
def xt_198 : xI := [[(0, .iload_n 1, 1), (1, .iconst 0, 1), (2, .iconst 2, 1), (3, .invokestatic 81, 3), (6, .ifCond .ne 5, 3), (9, .iconst (-1), 1), (10, .ireturn, 1), (11, .aload_n 0, 1), (12, .getfield 46, 3), (15, .iload_n 1, 1)], [(16, .iaload, 1), (17, .ifCond .ge 9, 3), (20, .aload_n 0, 1), (21, .iconst 1, 1), (22, .invokevirtual 89, 3), (25, .ireturn, 1), (26, .aload_n 0, 1), (27, .aload_n 0, 1), (28, .getfield 46, 3), (31, .iload_n 1, 1)], [(32, .iaload, 1), (33, .putfield 153, 3), (36, .iconst 0, 1), (37, .istore_n 2, 1), (38, .iload_n 2, 1), (39, .aload_n 0, 1), (40, .getfield 153, 3), (43, .if_icmp .ge 43, 3), (46, .aload_n 0, 1), (47, .getfield 40, 3)], [(50, .iload_n 2, 1), (51, .aload_n 0, 1), (52, .getfield 49, 3), (55, .bipush 40, 2), (57, .iload_n 1, 1), (58, .imul, 1), (59, .iload_n 2, 1), (60, .iadd, 1), (61, .iaload, 1), (62, .iastore, 1), (63, .aload_n 0, 1)], [(64, .getfield 43, 3), (67, .iload_n 2, 1), (68, .aload_n 0, 1), (69, .getfield 52, 3), (72, .bipush 40, 2), (74, .iload_n 1, 1), (75, .imul, 1), (76, .iload_n 2, 1), (77, .iadd, 1), (78, .iaload, 1), (79, .iastore, 1)], [(80, .iinc 2 1, 3), (83, .goto (-45), 3), (86, .aload_n 0, 1), (87, .getfield 153, 3), (90, .ireturn, 1)]]
def xt_199 : xI := [[(0, .aload_n 0, 1), (1, .getfield 7, 3), (4, .iload_n 1, 1), (5, .iaload, 1), (6, .ifCond .ge 9, 3), (9, .aload_n 0, 1), (10, .iconst 1, 1), (11, .invokevirtual 89, 3), (14, .ireturn, 1), (15, .aload_n 0, 1)], [(16, .getfield 7, 3), (19, .iload_n 1, 1), (20, .iaload, 1), (21, .iload_n 2, 1), (22, .if_icmp .le 9, 3), (25, .aload_n 0, 1), (26, .iconst 5, 1), (27, .invokevirtual 89, 3), (30, .ireturn, 1), (31, .iconst 1, 1)], [(32, .istore 4, 2), (34, .iconst 0, 1), (35, .istore 5, 2), (37, .iload 5, 2), (39, .aload_n 0, 1), (40, .getfield 7, 3), (43, .iload_n 1, 1), (44, .iaload, 1), (45, .if_icmp .ge 47, 3)], [(48, .aload_n 3, 1), (49, .iload 5, 2), (51, .aload_n 0, 1), (52, .getfield 13, 3), (55, .bipush 40, 2), (57, .iload_n 1, 1), (58, .imul, 1), (59, .iload 5, 2), (61, .iadd, 1), (62, .iaload, 1), (63, .iastore, 1)], [(64, .iload 4, 2), (66, .ifCond .eq 17, 3), (69, .aload_n 3, 1), (70, .iload 5, 2), (72, .iaload, 1), (73, .invokestatic 183, 3), (76, .ifCond .eq 7, 3), (79, .iconst 1, 1)], [(80, .goto 4, 3), (83, .iconst 0, 1), (84, .istore 4, 2), (86, .iinc 5 1, 3), (89, .goto (-52), 3), (92, .iload 4, 2), (94, .ifCond .eq 7, 3)], [(97, .iconst 0, 1), (98, .goto 8, 3), (101, .aload_n 0, 1), (102, .iconst 3, 1), (103, .invokevirtual 89, 3), (106, .ireturn, 1)]]
def xt_200 : xI := [[(0, .aload_n 0, 1), (1, .iload_n 1, 1), (2, .bipush 12, 2), (4, .aload_n 0, 1), (5, .getfield 62, 3), (8, .invokevirtual 192, 3), (11, .istore_n 3, 1), (12, .iload_n 3, 1), (13, .ifCond .ge 7, 3)], [(16, .iload_n 3, 1), (17, .goto 14, 3), (20, .aload_n 0, 1), (21, .iload_n 2, 1), (22, .bipush 12, 2), (24, .aload_n 0, 1), (25, .getfield 65, 3), (28, .invokevirtual 192, 3), (31, .istore_n 3, 1)], [(32, .iload_n 3, 1), (33, .ifCond .ge 7, 3), (36, .iload_n 3, 1), (37, .goto 27, 3), (40, .aload_n 0, 1), (41, .getfield 7, 3), (44, .iload_n 1, 1), (45, .iaload, 1), (46, .aload_n 0, 1), (47, .getfield 7, 3)], [(50, .iload_n 2, 1), (51, .iaload, 1), (52, .if_icmp .eq 11, 3), (55, .aload_n 0, 1), (56, .iconst 5, 1), (57, .invokevirtual 89, 3), (60, .goto 4, 3), (63, .iconst 0, 1)], [(64, .ireturn, 1)]]
def xt_201 : xI := [[(0, .aload_n 0, 1), (1, .getfield 7, 3), (4, .iload_n 1, 1), (5, .iload_n 2, 1), (6, .iastore, 1), (7, .iconst 0, 1), (8, .istore 4, 2), (10, .iload 4, 2), (12, .iload_n 2, 1), (13, .if_icmp .ge 25, 3)], [(16, .aload_n 0, 1), (17, .getfield 13, 3), (20, .bipush 40, 2), (22, .iload_n 1, 1), (23, .imul, 1), (24, .iload 4, 2), (26, .iadd, 1), (27, .aload_n 3, 1), (28, .iload 4, 2), (30, .iaload, 1), (31, .iastore, 1)], [(32, .iinc 4 1, 3), (35, .goto (-25), 3), (38, .iload_n 2, 1), (39, .ireturn, 1)]]
def xt_202 : xI := [[(0, .aload_n 0, 1), (1, .iload_n 1, 1), (2, .invokevirtual 173, 3), (5, .ifCond .eq 17, 3), (8, .iload_n 2, 1), (9, .invokestatic 85, 3), (12, .ifCond .eq 10, 3), (15, .iload_n 3, 1)], [(16, .invokestatic 85, 3), (19, .ifCond .ne 5, 3), (22, .iconst (-1), 1), (23, .ireturn, 1), (24, .aload_n 0, 1), (25, .iload_n 2, 1), (26, .bipush 12, 2), (28, .aload_n 0, 1), (29, .getfield 62, 3)], [(32, .invokevirtual 192, 3), (35, .istore 4, 2), (37, .iload 4, 2), (39, .ifCond .ge 6, 3), (42, .iload 4, 2), (44, .ireturn, 1), (45, .aload_n 0, 1), (46, .getfield 7, 3)], [(49, .iload_n 2, 1), (50, .iaload, 1), (51, .istore 5, 2), (53, .iconst 0, 1), (54, .istore 6, 2), (56, .iload 6, 2), (58, .iload 5, 2), (60, .if_icmp .ge 27, 3), (63, .aload_n 0, 1)], [(64, .getfield 68, 3), (67, .iload 6, 2), (69, .aload_n 0, 1), (70, .iload_n 1, 1), (71, .aload_n 0, 1), (72, .getfield 62, 3), (75, .iload 6, 2), (77, .invokevirtual 163, 3)], [(80, .iastore, 1), (81, .iinc 6 1, 3), (84, .goto (-28), 3), (87, .aload_n 0, 1), (88, .iload_n 3, 1), (89, .iload 5, 2), (91, .aload_n 0, 1), (92, .getfield 68, 3), (95, .invokevirtual 196, 3)], [(98, .ireturn, 1)]]
def xt_203 : xI := [[(0, .aload_n 0, 1), (1, .aload_n 0, 1), (2, .getfield 62, 3), (5, .iload_n 2, 1), (6, .iaload, 1), (7, .aload_n 0, 1), (8, .iload_n 1, 1), (9, .aload_n 0, 1), (10, .getfield 62, 3), (13, .iload_n 2, 1), (14, .invokevirtual 163, 3)], [(17, .invokevirtual 170, 3), (20, .bipush (-9), 2), (22, .if_icmp .eq 7, 3), (25, .iconst 1, 1), (26, .goto 4, 3), (29, .iconst 0, 1), (30, .ireturn, 1)]]
def xt_204 : xI := [[(0, .aload_n 0, 1), (1, .iload_n 1, 1), (2, .invokevirtual 173, 3), (5, .ifCond .eq 10, 3), (8, .iload_n 2, 1), (9, .invokestatic 85, 3), (12, .ifCond .ne 5, 3), (15, .iconst (-1), 1)], [(16, .ireturn, 1), (17, .aload_n 0, 1), (18, .iload_n 2, 1), (19, .bipush 12, 2), (21, .aload_n 0, 1), (22, .getfield 62, 3), (25, .invokevirtual 192, 3), (28, .istore_n 3, 1), (29, .iload_n 3, 1), (30, .ifCond .ge 5, 3)], [(33, .iload_n 3, 1), (34, .ireturn, 1), (35, .bipush (-9), 2), (37, .istore 4, 2), (39, .iconst 0, 1), (40, .istore 5, 2), (42, .aload_n 0, 1), (43, .getfield 7, 3), (46, .iload_n 2, 1), (47, .iaload, 1)], [(48, .iconst 1, 1), (49, .isub, 1), (50, .istore 6, 2), (52, .iload 6, 2), (54, .ifCond .lt 47, 3), (57, .aload_n 0, 1), (58, .iload_n 1, 1), (59, .iload 6, 2), (61, .invokevirtual 199, 3)], [(64, .istore 7, 2), (66, .iload 5, 2), (68, .iload 7, 2), (70, .ifCond .eq 7, 3), (73, .iconst 1, 1), (74, .goto 4, 3), (77, .iconst 0, 1), (78, .iadd, 1), (79, .istore 5, 2)], [(81, .iload 7, 2), (83, .ifCond .eq 8, 3), (86, .iload 6, 2), (88, .goto 5, 3), (91, .iload 4, 2), (93, .istore 4, 2), (95, .iinc 6 (-1), 3)], [(98, .goto (-46), 3), (101, .aload_n 0, 1), (102, .iload 5, 2), (104, .putfield 75, 3), (107, .iload 4, 2), (109, .ireturn, 1)]]
def xt_205 : xI := [[(0, .aload_n 0, 1), (1, .iload_n 1, 1), (2, .invokevirtual 173, 3), (5, .ifCond .eq 10, 3), (8, .iload_n 2, 1), (9, .invokestatic 85, 3), (12, .ifCond .ne 5, 3), (15, .iconst (-1), 1)], [(16, .ireturn, 1), (17, .aload_n 0, 1), (18, .iload_n 2, 1), (19, .bipush 12, 2), (21, .aload_n 0, 1), (22, .getfield 62, 3), (25, .invokevirtual 192, 3), (28, .istore_n 3, 1), (29, .iload_n 3, 1), (30, .ifCond .ge 5, 3)], [(33, .iload_n 3, 1), (34, .ireturn, 1), (35, .iconst 0, 1), (36, .istore 4, 2), (38, .iconst 0, 1), (39, .istore 5, 2), (41, .iload 5, 2), (43, .aload_n 0, 1), (44, .getfield 7, 3), (47, .iload_n 2, 1)], [(48, .iaload, 1), (49, .if_icmp .ge 40, 3), (52, .iload 4, 2), (54, .aload_n 0, 1), (55, .iload_n 1, 1), (56, .aload_n 0, 1), (57, .getfield 62, 3), (60, .iload 5, 2), (62, .invokevirtual 163, 3)], [(65, .aload_n 0, 1), (66, .getfield 62, 3), (69, .iload 5, 2), (71, .iaload, 1), (72, .if_icmp .ne 7, 3), (75, .iconst 1, 1), (76, .goto 4, 3), (79, .iconst 0, 1)], [(80, .iadd, 1), (81, .istore 4, 2), (83, .iinc 5 1, 3), (86, .goto (-45), 3), (89, .iload 4, 2), (91, .ireturn, 1)]]
def xt_206 : xI := [[(0, .iload_n 1, 1), (1, .invokestatic 85, 3), (4, .ifCond .eq 10, 3), (7, .iload_n 2, 1), (8, .invokestatic 85, 3), (11, .ifCond .ne 5, 3), (14, .iconst (-1), 1), (15, .ireturn, 1)], [(16, .aload_n 0, 1), (17, .iload_n 1, 1), (18, .iload_n 2, 1), (19, .invokevirtual 202, 3), (22, .istore_n 3, 1), (23, .iload_n 3, 1), (24, .ifCond .ge 5, 3), (27, .iload_n 3, 1), (28, .ireturn, 1), (29, .bipush (-9), 2), (31, .istore 4, 2)], [(33, .iconst 0, 1), (34, .istore 5, 2), (36, .aload_n 0, 1), (37, .getfield 7, 3), (40, .iload_n 1, 1), (41, .iaload, 1), (42, .iconst 1, 1), (43, .isub, 1), (44, .istore 6, 2), (46, .iload 6, 2)], [(48, .ifCond .lt 62, 3), (51, .iload 5, 2), (53, .aload_n 0, 1), (54, .getfield 62, 3), (57, .iload 6, 2), (59, .iaload, 1), (60, .aload_n 0, 1), (61, .getfield 65, 3)], [(64, .iload 6, 2), (66, .iaload, 1), (67, .if_icmp .ne 7, 3), (70, .iconst 0, 1), (71, .goto 4, 3), (74, .iconst 1, 1), (75, .iadd, 1), (76, .istore 5, 2), (78, .aload_n 0, 1), (79, .getfield 62, 3)], [(82, .iload 6, 2), (84, .iaload, 1), (85, .aload_n 0, 1), (86, .getfield 65, 3), (89, .iload 6, 2), (91, .iaload, 1), (92, .if_icmp .ne 8, 3), (95, .iload 4, 2)], [(97, .goto 5, 3), (100, .iload 6, 2), (102, .istore 4, 2), (104, .iinc 6 (-1), 3), (107, .goto (-61), 3), (110, .aload_n 0, 1), (111, .iload 4, 2)], [(113, .putfield 75, 3), (116, .iload 5, 2), (118, .ireturn, 1)]]
def xt_207 : xI := [[(0, .iconst 1, 1), (1, .istore_n 1, 1), (2, .iconst 0, 1), (3, .istore_n 2, 1), (4, .iload_n 2, 1), (5, .iload_n 0, 1), (6, .if_icmp .ge 14, 3), (9, .iload_n 1, 1), (10, .bipush 6, 2), (12, .imul, 1), (13, .istore_n 1, 1), (14, .iinc 2 1, 3)], [(17, .goto (-13), 3), (20, .iload_n 1, 1), (21, .ireturn, 1)]]
def xt_208 : xI := [[(0, .iload_n 1, 1), (1, .istore_n 3, 1), (2, .iload_n 2, 1), (3, .iconst 1, 1), (4, .isub, 1), (5, .istore 4, 2), (7, .iload 4, 2), (9, .ifCond .lt 25, 3), (12, .aload_n 0, 1), (13, .getfield 62, 3)], [(16, .iload 4, 2), (18, .iload_n 3, 1), (19, .bipush 6, 2), (21, .irem, 1), (22, .iastore, 1), (23, .iload_n 3, 1), (24, .bipush 6, 2), (26, .idiv, 1), (27, .istore_n 3, 1), (28, .iinc 4 (-1), 3), (31, .goto (-24), 3)], [(34, .return_, 1)]]
def xt_209 : xI := [[(0, .iconst 1, 1), (1, .istore_n 3, 1), (2, .iconst 0, 1), (3, .istore 4, 2), (5, .iload 4, 2), (7, .iload_n 2, 1), (8, .if_icmp .ge 40, 3), (11, .iload_n 3, 1), (12, .ifCond .eq 36, 3), (15, .aload_n 0, 1)], [(16, .iload_n 1, 1), (17, .aload_n 0, 1), (18, .getfield 62, 3), (21, .iload 4, 2), (23, .invokevirtual 163, 3), (26, .aload_n 0, 1), (27, .getfield 65, 3), (30, .iload 4, 2)], [(32, .iaload, 1), (33, .if_icmp .ne 7, 3), (36, .iconst 1, 1), (37, .goto 4, 3), (40, .iconst 0, 1), (41, .istore_n 3, 1), (42, .iinc 4 1, 3), (45, .goto (-40), 3)], [(48, .iload_n 3, 1), (49, .ireturn, 1)]]
def xt_210 : xI := [[(0, .aload_n 0, 1), (1, .iload_n 1, 1), (2, .invokevirtual 173, 3), (5, .ifCond .eq 10, 3), (8, .iload_n 2, 1), (9, .invokestatic 85, 3), (12, .ifCond .ne 5, 3), (15, .iconst (-1), 1)], [(16, .ireturn, 1), (17, .aload_n 0, 1), (18, .iload_n 2, 1), (19, .bipush 6, 2), (21, .aload_n 0, 1), (22, .getfield 65, 3), (25, .invokevirtual 192, 3), (28, .istore_n 3, 1), (29, .iload_n 3, 1), (30, .ifCond .ge 5, 3)], [(33, .iload_n 3, 1), (34, .ireturn, 1), (35, .aload_n 0, 1), (36, .getfield 7, 3), (39, .iload_n 2, 1), (40, .iaload, 1), (41, .istore 4, 2), (43, .iconst 0, 1), (44, .istore 5, 2), (46, .iconst 0, 1), (47, .istore 6, 2)], [(49, .iload 6, 2), (51, .iload 4, 2), (53, .invokestatic 205, 3), (56, .if_icmp .ge 37, 3), (59, .aload_n 0, 1), (60, .iload 6, 2), (62, .iload 4, 2)], [(64, .invokevirtual 208, 3), (67, .iload 5, 2), (69, .aload_n 0, 1), (70, .iload_n 1, 1), (71, .iload 4, 2), (73, .invokevirtual 212, 3), (76, .ifCond .eq 7, 3), (79, .iconst 1, 1)], [(80, .goto 4, 3), (83, .iconst 0, 1), (84, .iadd, 1), (85, .istore 5, 2), (87, .iinc 6 1, 3), (90, .goto (-41), 3), (93, .aload_n 0, 1), (94, .iload 5, 2)], [(96, .i2l, 1), (97, .lconst 1, 1), (98, .invokevirtual 215, 3), (101, .iconst 1, 1), (102, .ireturn, 1)]]
def xt_211 : xI := [[(0, .aload_n 0, 1), (1, .iload_n 1, 1), (2, .invokevirtual 173, 3), (5, .ifCond .eq 17, 3), (8, .iload_n 2, 1), (9, .invokestatic 85, 3), (12, .ifCond .eq 10, 3), (15, .iload_n 3, 1)], [(16, .invokestatic 85, 3), (19, .ifCond .ne 5, 3), (22, .iconst (-1), 1), (23, .ireturn, 1), (24, .aload_n 0, 1), (25, .iload_n 2, 1), (26, .bipush 6, 2), (28, .aload_n 0, 1), (29, .getfield 65, 3)], [(32, .invokevirtual 192, 3), (35, .istore 4, 2), (37, .iload 4, 2), (39, .ifCond .ge 6, 3), (42, .iload 4, 2), (44, .ireturn, 1), (45, .aload_n 0, 1), (46, .getfield 7, 3)], [(49, .iload_n 2, 1), (50, .iaload, 1), (51, .istore 5, 2), (53, .iconst 0, 1), (54, .istore 6, 2), (56, .iload 6, 2), (58, .iload 5, 2), (60, .invokestatic 205, 3), (63, .if_icmp .ge 39, 3)], [(66, .aload_n 0, 1), (67, .iload 6, 2), (69, .iload 5, 2), (71, .invokevirtual 208, 3), (74, .aload_n 0, 1), (75, .iload_n 1, 1), (76, .iload 5, 2), (78, .invokevirtual 212, 3)], [(81, .ifCond .eq 15, 3), (84, .aload_n 0, 1), (85, .iload_n 3, 1), (86, .iload 5, 2), (88, .aload_n 0, 1), (89, .getfield 62, 3), (92, .invokevirtual 196, 3), (95, .ireturn, 1)], [(96, .iinc 6 1, 3), (99, .goto (-43), 3), (102, .bipush (-9), 2), (104, .ireturn, 1)]]
def xt_212 : xI := [[(0, .aload_n 0, 1), (1, .iload_n 1, 1), (2, .invokevirtual 173, 3), (5, .ifCond .eq 14, 3), (8, .iload_n 2, 1), (9, .invokestatic 85, 3), (12, .ifCond .eq 7, 3), (15, .iload_n 3, 1)], [(16, .ifCond .ge 5, 3), (19, .iconst (-1), 1), (20, .ireturn, 1), (21, .aload_n 0, 1), (22, .iload_n 2, 1), (23, .bipush 6, 2), (25, .aload_n 0, 1), (26, .getfield 65, 3), (29, .invokevirtual 192, 3)], [(32, .istore 4, 2), (34, .iload 4, 2), (36, .ifCond .ge 6, 3), (39, .iload 4, 2), (41, .ireturn, 1), (42, .aload_n 0, 1), (43, .getfield 7, 3), (46, .iload_n 2, 1), (47, .iaload, 1)], [(48, .istore 5, 2), (50, .iload_n 3, 1), (51, .iload 5, 2), (53, .if_icmp .lt 5, 3), (56, .iconst (-1), 1), (57, .ireturn, 1), (58, .iconst 0, 1), (59, .istore 6, 2), (61, .iconst 0, 1), (62, .istore 7, 2)], [(64, .iload 7, 2), (66, .iload 5, 2), (68, .invokestatic 205, 3), (71, .if_icmp .ge 44, 3), (74, .aload_n 0, 1), (75, .iload 7, 2), (77, .iload 5, 2), (79, .invokevirtual 208, 3)], [(82, .iload 6, 2), (84, .aload_n 0, 1), (85, .iload_n 1, 1), (86, .iload 5, 2), (88, .invokevirtual 212, 3), (91, .ifCond .eq 14, 3), (94, .iconst 1, 1), (95, .aload_n 0, 1)], [(96, .getfield 62, 3), (99, .iload_n 3, 1), (100, .iaload, 1), (101, .ishl, 1), (102, .goto 4, 3), (105, .iconst 0, 1), (106, .ior, 1), (107, .istore 6, 2), (109, .iinc 7 1, 3)], [(112, .goto (-48), 3), (115, .iload 6, 2), (117, .ireturn, 1)]]
def xt_213 : xI := [[(0, .iconst 0, 1), (1, .istore_n 2, 1), (2, .iconst 0, 1), (3, .istore_n 3, 1), (4, .iload_n 3, 1), (5, .bipush 24, 2), (7, .if_icmp .ge 80, 3), (10, .iconst 1, 1), (11, .istore 4, 2), (13, .iconst 0, 1), (14, .istore 5, 2)], [(16, .iload 5, 2), (18, .iload_n 1, 1), (19, .if_icmp .ge 47, 3), (22, .iload 4, 2), (24, .ifCond .eq 33, 3), (27, .aload_n 0, 1), (28, .iload_n 3, 1), (29, .iconst 4, 1), (30, .idiv, 1), (31, .iload_n 3, 1)], [(32, .iconst 4, 1), (33, .irem, 1), (34, .aload_n 0, 1), (35, .getfield 62, 3), (38, .iload 5, 2), (40, .invokevirtual 159, 3), (43, .aload_n 0, 1), (44, .getfield 65, 3), (47, .iload 5, 2)], [(49, .iaload, 1), (50, .if_icmp .ne 7, 3), (53, .iconst 1, 1), (54, .goto 4, 3), (57, .iconst 0, 1), (58, .istore 4, 2), (60, .iinc 5 1, 3), (63, .goto (-47), 3)], [(66, .iload_n 2, 1), (67, .iload 4, 2), (69, .ifCond .eq 9, 3), (72, .iconst 1, 1), (73, .iload_n 3, 1), (74, .ishl, 1), (75, .goto 4, 3), (78, .iconst 0, 1), (79, .ior, 1)], [(80, .istore_n 2, 1), (81, .iinc 3 1, 3), (84, .goto (-80), 3), (87, .iload_n 2, 1), (88, .ireturn, 1)]]
def xt_214 : xI := [[(0, .iload_n 1, 1), (1, .invokestatic 85, 3), (4, .ifCond .eq 10, 3), (7, .iload_n 2, 1), (8, .invokestatic 85, 3), (11, .ifCond .ne 5, 3), (14, .iconst (-1), 1), (15, .ireturn, 1)], [(16, .aload_n 0, 1), (17, .iload_n 1, 1), (18, .iload_n 2, 1), (19, .invokevirtual 202, 3), (22, .istore_n 3, 1), (23, .iload_n 3, 1), (24, .ifCond .ge 7, 3), (27, .iload_n 3, 1), (28, .goto 13, 3), (31, .aload_n 0, 1)], [(32, .aload_n 0, 1), (33, .getfield 7, 3), (36, .iload_n 1, 1), (37, .iaload, 1), (38, .invokevirtual 219, 3), (41, .ireturn, 1)]]
def xt_215 : xI := [[(0, .iconst 0, 1), (1, .istore_n 1, 1), (2, .iconst 0, 1), (3, .istore_n 2, 1), (4, .iload_n 2, 1), (5, .bipush 24, 2), (7, .if_icmp .ge 17, 3), (10, .iload_n 1, 1), (11, .iload_n 0, 1), (12, .iload_n 2, 1), (13, .ishr, 1), (14, .iconst 1, 1), (15, .iand, 1)], [(16, .iadd, 1), (17, .istore_n 1, 1), (18, .iinc 2 1, 3), (21, .goto (-17), 3), (24, .iload_n 1, 1), (25, .ireturn, 1)]]
def xt_216 : xI := [[(0, .iload_n 1, 1), (1, .invokestatic 85, 3), (4, .ifCond .eq 10, 3), (7, .iload_n 2, 1), (8, .invokestatic 85, 3), (11, .ifCond .ne 5, 3), (14, .iconst (-1), 1), (15, .ireturn, 1)], [(16, .aload_n 0, 1), (17, .iload_n 1, 1), (18, .iload_n 2, 1), (19, .invokevirtual 202, 3), (22, .istore_n 3, 1), (23, .iload_n 3, 1), (24, .ifCond .ge 5, 3), (27, .iload_n 3, 1), (28, .ireturn, 1), (29, .aload_n 0, 1), (30, .getfield 7, 3)], [(33, .iload_n 1, 1), (34, .iaload, 1), (35, .istore 4, 2), (37, .iload 4, 2), (39, .bipush 12, 2), (41, .if_icmp .ne 9, 3), (44, .aload_n 0, 1), (45, .iconst 5, 1), (46, .invokevirtual 89, 3)], [(49, .ireturn, 1), (50, .aload_n 0, 1), (51, .iload 4, 2), (53, .invokevirtual 219, 3), (56, .istore 5, 2), (58, .iload 5, 2), (60, .invokestatic 222, 3), (63, .iconst 2, 1)], [(64, .if_icmp .ge 6, 3), (67, .bipush (-9), 2), (69, .ireturn, 1), (70, .bipush (-9), 2), (72, .istore 6, 2), (74, .bipush 99, 2), (76, .istore 7, 2), (78, .iconst 0, 1), (79, .istore 8, 2)], [(81, .iload 8, 2), (83, .bipush 6, 2), (85, .if_icmp .ge 147, 3), (88, .aload_n 0, 1), (89, .getfield 62, 3), (92, .iload 4, 2), (94, .iload 8, 2)], [(96, .iastore, 1), (97, .iconst 0, 1), (98, .istore 9, 2), (100, .iconst 0, 1), (101, .istore 10, 2), (103, .iload 10, 2), (105, .bipush 6, 2), (107, .if_icmp .ge 87, 3), (110, .iconst 0, 1), (111, .istore 11, 2)], [(113, .iconst 0, 1), (114, .istore 12, 2), (116, .iload 12, 2), (118, .bipush 24, 2), (120, .if_icmp .ge 52, 3), (123, .iload 11, 2), (125, .iload 5, 2), (127, .iload 12, 2)], [(129, .invokestatic 225, 3), (132, .ifCond .eq 30, 3), (135, .aload_n 0, 1), (136, .iload 12, 2), (138, .iconst 4, 1), (139, .idiv, 1), (140, .iload 12, 2), (142, .iconst 4, 1), (143, .irem, 1)], [(144, .aload_n 0, 1), (145, .getfield 62, 3), (148, .iload 4, 2), (150, .invokevirtual 159, 3), (153, .iload 10, 2), (155, .if_icmp .ne 7, 3), (158, .iconst 1, 1), (159, .goto 4, 3)], [(162, .iconst 0, 1), (163, .iadd, 1), (164, .istore 11, 2), (166, .iinc 12 1, 3), (169, .goto (-53), 3), (172, .iload 11, 2), (174, .iload 9, 2)], [(176, .if_icmp .le 8, 3), (179, .iload 11, 2), (181, .goto 5, 3), (184, .iload 9, 2), (186, .istore 9, 2), (188, .iinc 10 1, 3), (191, .goto (-88), 3)], [(194, .iload 9, 2), (196, .iload 7, 2), (198, .if_icmp .ge 8, 3), (201, .iload 8, 2), (203, .goto 5, 3), (206, .iload 6, 2)], [(208, .istore 6, 2), (210, .iload 9, 2), (212, .iload 7, 2), (214, .if_icmp .ge 8, 3), (217, .iload 9, 2), (219, .goto 5, 3), (222, .iload 7, 2)], [(224, .istore 7, 2), (226, .iinc 8 1, 3), (229, .goto (-148), 3), (232, .aload_n 0, 1), (233, .iload 7, 2), (235, .putfield 75, 3), (238, .iload 6, 2)], [(240, .ireturn, 1)]]
def xt_217 : xI := [[(0, .aload_n 0, 1), (1, .iload_n 1, 1), (2, .invokevirtual 173, 3), (5, .ifCond .eq 17, 3), (8, .iload_n 2, 1), (9, .invokestatic 85, 3), (12, .ifCond .eq 10, 3), (15, .iload_n 3, 1)], [(16, .invokestatic 85, 3), (19, .ifCond .ne 5, 3), (22, .iconst (-1), 1), (23, .ireturn, 1), (24, .aload_n 0, 1), (25, .iload_n 2, 1), (26, .iload_n 3, 1), (27, .invokevirtual 202, 3), (30, .istore 4, 2)], [(32, .iload 4, 2), (34, .ifCond .ge 6, 3), (37, .iload 4, 2), (39, .ireturn, 1), (40, .iconst 3, 1), (41, .istore 5, 2), (43, .bipush (-9), 2), (45, .istore 6, 2), (47, .iconst 0, 1)], [(48, .istore 7, 2), (50, .iload 7, 2), (52, .aload_n 0, 1), (53, .getfield 7, 3), (56, .iload_n 2, 1), (57, .iaload, 1), (58, .if_icmp .ge 93, 3), (61, .aload_n 0, 1), (62, .iload_n 1, 1), (63, .aload_n 0, 1)], [(64, .getfield 62, 3), (67, .iload 7, 2), (69, .invokevirtual 163, 3), (72, .aload_n 0, 1), (73, .getfield 65, 3), (76, .iload 7, 2), (78, .iaload, 1), (79, .if_icmp .ne 7, 3)], [(82, .iconst 1, 1), (83, .goto 4, 3), (86, .iconst 0, 1), (87, .aload_n 0, 1), (88, .iload_n 1, 1), (89, .aload_n 0, 1), (90, .getfield 65, 3), (93, .iload 7, 2), (95, .invokevirtual 163, 3)], [(98, .aload_n 0, 1), (99, .getfield 62, 3), (102, .iload 7, 2), (104, .iaload, 1), (105, .if_icmp .ne 7, 3), (108, .iconst 2, 1), (109, .goto 4, 3)], [(112, .iconst 0, 1), (113, .iadd, 1), (114, .istore 8, 2), (116, .iload 5, 2), (118, .iload 8, 2), (120, .iand, 1), (121, .istore 5, 2), (123, .iload 6, 2), (125, .bipush (-9), 2), (127, .if_icmp .ne 14, 3)], [(130, .iload 5, 2), (132, .iconst 3, 1), (133, .if_icmp .eq 8, 3), (136, .iload 7, 2), (138, .goto 5, 3), (141, .iload 6, 2), (143, .istore 6, 2)], [(145, .iinc 7 1, 3), (148, .goto (-98), 3), (151, .aload_n 0, 1), (152, .iload 6, 2), (154, .putfield 75, 3), (157, .iload 5, 2), (159, .ireturn, 1)]]
def xt_218 : xI := [[(0, .iconst 1, 1), (1, .istore_n 3, 1), (2, .iconst 0, 1), (3, .istore 4, 2), (5, .iload 4, 2), (7, .iload_n 2, 1), (8, .if_icmp .ge 29, 3), (11, .iload_n 3, 1), (12, .ifCond .eq 25, 3), (15, .aload_n 0, 1)], [(16, .iload_n 1, 1), (17, .iload 4, 2), (19, .invokevirtual 199, 3), (22, .ifCond .ne 7, 3), (25, .iconst 1, 1), (26, .goto 4, 3), (29, .iconst 0, 1), (30, .istore_n 3, 1), (31, .iinc 4 1, 3)], [(34, .goto (-29), 3), (37, .iload_n 3, 1), (38, .ireturn, 1)]]
def xt_219 : xI := [[(0, .aload_n 0, 1), (1, .iload_n 1, 1), (2, .invokevirtual 173, 3), (5, .ifCond .eq 12, 3), (8, .iload_n 2, 1), (9, .iconst 0, 1), (10, .iconst 5, 1), (11, .invokestatic 81, 3), (14, .ifCond .ne 5, 3)], [(17, .iconst (-1), 1), (18, .ireturn, 1), (19, .iconst 0, 1), (20, .istore_n 3, 1), (21, .iconst 0, 1), (22, .istore 4, 2), (24, .iconst 0, 1), (25, .istore 5, 2), (27, .iload 5, 2), (29, .iload_n 2, 1), (30, .invokestatic 205, 3)], [(33, .if_icmp .ge 49, 3), (36, .aload_n 0, 1), (37, .iload 5, 2), (39, .iload_n 2, 1), (40, .invokevirtual 208, 3), (43, .aload_n 0, 1), (44, .iload_n 1, 1), (45, .iload_n 2, 1), (46, .invokevirtual 228, 3)], [(49, .ifCond .eq 27, 3), (52, .iinc 3 1, 3), (55, .iload 4, 2), (57, .iload_n 2, 1), (58, .ifCond .le 14, 3), (61, .iconst 1, 1), (62, .aload_n 0, 1), (63, .getfield 62, 3)], [(66, .iconst 0, 1), (67, .iaload, 1), (68, .ishl, 1), (69, .goto 4, 3), (72, .iconst 0, 1), (73, .ior, 1), (74, .istore 4, 2), (76, .iinc 5 1, 3), (79, .goto (-52), 3)], [(82, .aload_n 0, 1), (83, .iload_n 3, 1), (84, .i2l, 1), (85, .lconst 1, 1), (86, .invokevirtual 215, 3), (89, .aload_n 0, 1), (90, .iload 4, 2), (92, .invokevirtual 97, 3), (95, .ireturn, 1)]]
def xt_220 : xI := [[(0, .aload_n 0, 1), (1, .iload_n 1, 1), (2, .invokevirtual 173, 3), (5, .ifCond .eq 12, 3), (8, .iload_n 2, 1), (9, .iconst 0, 1), (10, .iconst 5, 1), (11, .invokestatic 81, 3), (14, .ifCond .ne 5, 3)], [(17, .iconst (-1), 1), (18, .ireturn, 1), (19, .bipush (-9), 2), (21, .istore_n 3, 1), (22, .iconst 0, 1), (23, .istore 4, 2), (25, .iload 4, 2), (27, .iload_n 2, 1), (28, .invokestatic 205, 3), (31, .if_icmp .ge 80, 3)], [(34, .aload_n 0, 1), (35, .iload 4, 2), (37, .iload_n 2, 1), (38, .invokevirtual 208, 3), (41, .aload_n 0, 1), (42, .iload_n 1, 1), (43, .iload_n 2, 1), (44, .invokevirtual 228, 3), (47, .ifCond .eq 58, 3)], [(50, .iconst 0, 1), (51, .istore 5, 2), (53, .iconst 0, 1), (54, .istore 6, 2), (56, .iload 6, 2), (58, .iload_n 2, 1), (59, .if_icmp .ge 29, 3), (62, .iload 5, 2)], [(64, .aload_n 0, 1), (65, .getfield 62, 3), (68, .iload 6, 2), (70, .iaload, 1), (71, .ifCond .ne 7, 3), (74, .iconst 1, 1), (75, .goto 4, 3), (78, .iconst 0, 1), (79, .iadd, 1)], [(80, .istore 5, 2), (82, .iinc 6 1, 3), (85, .goto (-29), 3), (88, .iload_n 3, 1), (89, .ifCond .lt 9, 3), (92, .iload 5, 2), (94, .iload_n 3, 1), (95, .if_icmp .ge 8, 3)], [(98, .iload 5, 2), (100, .goto 4, 3), (103, .iload_n 3, 1), (104, .istore_n 3, 1), (105, .iinc 4 1, 3), (108, .goto (-83), 3), (111, .iload_n 3, 1)], [(112, .ireturn, 1)]]
def xt_221 : xI := [[(0, .iconst 1, 1), (1, .istore_n 2, 1), (2, .iconst 0, 1), (3, .istore_n 3, 1), (4, .iload_n 3, 1), (5, .aload_n 0, 1), (6, .getfield 147, 3), (9, .if_icmp .ge 28, 3), (12, .iload_n 2, 1), (13, .ifCond .eq 16, 3)], [(16, .aload_n 0, 1), (17, .iload_n 3, 1), (18, .iload_n 1, 1), (19, .invokevirtual 199, 3), (22, .ifCond .ne 7, 3), (25, .iconst 1, 1), (26, .goto 4, 3), (29, .iconst 0, 1), (30, .istore_n 2, 1), (31, .iinc 3 1, 3)], [(34, .goto (-30), 3), (37, .iload_n 2, 1), (38, .ireturn, 1)]]
def xt_222 : xI := [[(0, .iconst 0, 1), (1, .istore_n 2, 1), (2, .iload_n 2, 1), (3, .iload_n 1, 1), (4, .invokestatic 205, 3), (7, .if_icmp .ge 57, 3), (10, .aload_n 0, 1), (11, .iload_n 2, 1), (12, .iload_n 1, 1), (13, .invokevirtual 208, 3)], [(16, .iconst 1, 1), (17, .istore_n 3, 1), (18, .iconst 0, 1), (19, .istore 4, 2), (21, .iload 4, 2), (23, .iload_n 1, 1), (24, .if_icmp .ge 28, 3), (27, .iload_n 3, 1), (28, .ifCond .eq 16, 3), (31, .aload_n 0, 1)], [(32, .iload 4, 2), (34, .invokevirtual 231, 3), (37, .ifCond .eq 7, 3), (40, .iconst 1, 1), (41, .goto 4, 3), (44, .iconst 0, 1), (45, .istore_n 3, 1), (46, .iinc 4 1, 3)], [(49, .goto (-28), 3), (52, .iload_n 3, 1), (53, .ifCond .eq 5, 3), (56, .iload_n 2, 1), (57, .ireturn, 1), (58, .iinc 2 1, 3), (61, .goto (-59), 3)], [(64, .iconst (-1), 1), (65, .ireturn, 1)]]
def xt_223 : xI := [[(0, .iload_n 1, 1), (1, .iconst 0, 1), (2, .iconst 3, 1), (3, .invokestatic 81, 3), (6, .ifCond .ne 5, 3), (9, .iconst (-1), 1), (10, .ireturn, 1), (11, .aload_n 0, 1), (12, .getfield 147, 3), (15, .ifCond .ne 6, 3)], [(18, .bipush (-4), 2), (20, .ireturn, 1), (21, .aload_n 0, 1), (22, .iload_n 1, 1), (23, .invokevirtual 234, 3), (26, .ifCond .lt 7, 3), (29, .iconst 1, 1), (30, .goto 4, 3)], [(33, .iconst 0, 1), (34, .ireturn, 1)]]
def xt_224 : xI := [[(0, .iload_n 1, 1), (1, .iconst 1, 1), (2, .iconst 3, 1), (3, .invokestatic 81, 3), (6, .ifCond .ne 5, 3), (9, .iconst (-1), 1), (10, .ireturn, 1), (11, .aload_n 0, 1), (12, .getfield 147, 3), (15, .ifCond .ne 6, 3)], [(18, .bipush (-4), 2), (20, .ireturn, 1), (21, .aload_n 0, 1), (22, .iload_n 1, 1), (23, .invokevirtual 234, 3), (26, .ifCond .lt 12, 3), (29, .aload_n 0, 1), (30, .getfield 62, 3)], [(33, .iconst 0, 1), (34, .iaload, 1), (35, .goto 5, 3), (38, .bipush (-9), 2), (40, .ireturn, 1)]]
def xt_225 : xI := [[(0, .aload_n 0, 1), (1, .iload_n 1, 1), (2, .invokevirtual 173, 3), (5, .ifCond .eq 20, 3), (8, .iload_n 2, 1), (9, .invokestatic 85, 3), (12, .ifCond .eq 13, 3), (15, .iload_n 3, 1)], [(16, .iconst 0, 1), (17, .bipush 12, 2), (19, .invokestatic 81, 3), (22, .ifCond .ne 5, 3), (25, .iconst (-1), 1), (26, .ireturn, 1), (27, .aload_n 0, 1), (28, .iload_n 2, 1), (29, .bipush 12, 2), (31, .aload_n 0, 1)], [(32, .getfield 62, 3), (35, .invokevirtual 192, 3), (38, .istore 4, 2), (40, .iload 4, 2), (42, .ifCond .ge 6, 3), (45, .iload 4, 2), (47, .ireturn, 1)], [(48, .lconst 1, 1), (49, .lstore 5, 2), (51, .lconst 1, 1), (52, .lstore 7, 2), (54, .iconst 0, 1), (55, .istore 9, 2), (57, .iload 9, 2), (59, .aload_n 0, 1), (60, .getfield 7, 3), (63, .iload_n 2, 1)], [(64, .iaload, 1), (65, .if_icmp .ge 64, 3), (68, .lload 5, 2), (70, .aload_n 0, 1), (71, .iload_n 1, 1), (72, .iload 9, 2), (74, .invokevirtual 199, 3), (77, .ifCond .eq 7, 3)], [(80, .iconst 0, 1), (81, .goto 7, 3), (84, .bipush 12, 2), (86, .iload_n 3, 1), (87, .isub, 1), (88, .aload_n 0, 1), (89, .aload_n 0, 1), (90, .getfield 62, 3), (93, .iload 9, 2), (95, .iaload, 1)], [(96, .iconst 0, 1), (97, .invokevirtual 170, 3), (100, .bipush (-9), 2), (102, .if_icmp .ne 7, 3), (105, .iload_n 3, 1), (106, .goto 4, 3), (109, .iconst 0, 1), (110, .iadd, 1), (111, .i2l, 1)], [(112, .lmul, 1), (113, .lstore 5, 2), (115, .lload 7, 2), (117, .ldc2_w 237, 3), (120, .lmul, 1), (121, .lstore 7, 2), (123, .iinc 9 1, 3), (126, .goto (-69), 3)], [(129, .aload_n 0, 1), (130, .lload 5, 2), (132, .lload 7, 2), (134, .invokevirtual 215, 3), (137, .iconst 1, 1), (138, .ireturn, 1)]]
def xt_226 : xI := [[(0, .aload_n 0, 1), (1, .iload_n 1, 1), (2, .invokevirtual 173, 3), (5, .ifCond .eq 20, 3), (8, .iload_n 2, 1), (9, .invokestatic 85, 3), (12, .ifCond .eq 13, 3), (15, .iload_n 3, 1)], [(16, .iconst 0, 1), (17, .bipush 12, 2), (19, .invokestatic 81, 3), (22, .ifCond .ne 5, 3), (25, .iconst (-1), 1), (26, .ireturn, 1), (27, .aload_n 0, 1), (28, .iload_n 2, 1), (29, .bipush 12, 2), (31, .aload_n 0, 1)], [(32, .getfield 62, 3), (35, .invokevirtual 192, 3), (38, .istore 4, 2), (40, .iload 4, 2), (42, .ifCond .ge 6, 3), (45, .iload 4, 2), (47, .ireturn, 1)], [(48, .lconst 0, 1), (49, .lstore 5, 2), (51, .iconst 0, 1), (52, .istore 7, 2), (54, .iload 7, 2), (56, .aload_n 0, 1), (57, .getfield 7, 3), (60, .iload_n 2, 1), (61, .iaload, 1), (62, .if_icmp .ge 56, 3)], [(65, .lload 5, 2), (67, .aload_n 0, 1), (68, .iload_n 1, 1), (69, .iload 7, 2), (71, .invokevirtual 199, 3), (74, .ifCond .eq 10, 3), (77, .bipush 12, 2), (79, .iload_n 3, 1)], [(80, .isub, 1), (81, .goto 4, 3), (84, .iconst 0, 1), (85, .aload_n 0, 1), (86, .aload_n 0, 1), (87, .getfield 62, 3), (90, .iload 7, 2), (92, .iaload, 1), (93, .iconst 0, 1), (94, .invokevirtual 170, 3)], [(97, .bipush (-9), 2), (99, .if_icmp .ne 7, 3), (102, .iconst 0, 1), (103, .goto 4, 3), (106, .iload_n 3, 1), (107, .iadd, 1), (108, .i2l, 1), (109, .ladd, 1), (110, .lstore 5, 2)], [(112, .iinc 7 1, 3), (115, .goto (-61), 3), (118, .aload_n 0, 1), (119, .lload 5, 2), (121, .ldc2_w 237, 3), (124, .invokevirtual 215, 3), (127, .iconst 1, 1)], [(128, .ireturn, 1)]]
def xt_227 : xI := [[(0, .iload_n 1, 1), (1, .iconst 1, 1), (2, .bipush 20, 2), (4, .invokestatic 81, 3), (7, .ifCond .eq 13, 3), (10, .iload_n 2, 1), (11, .iconst 1, 1), (12, .ldc 239, 2), (14, .invokestatic 81, 3)], [(17, .ifCond .ne 5, 3), (20, .iconst (-1), 1), (21, .ireturn, 1), (22, .aload_n 0, 1), (23, .getfield 147, 3), (26, .ifCond .ne 6, 3), (29, .bipush (-4), 2), (31, .ireturn, 1)], [(32, .aload_n 0, 1), (33, .getfield 153, 3), (36, .iload_n 1, 1), (37, .iadd, 1), (38, .bipush 40, 2), (40, .if_icmp .le 6, 3), (43, .bipush (-2), 2), (45, .ireturn, 1), (46, .iload_n 2, 1), (47, .i2l, 1)], [(48, .lstore_n 3, 1), (49, .iconst 0, 1), (50, .istore 5, 2), (52, .iconst 0, 1), (53, .istore 6, 2), (55, .iload 6, 2), (57, .iload_n 1, 1), (58, .if_icmp .ge 67, 3), (61, .lload_n 3, 1), (62, .ldc2_w 240, 3)], [(65, .lmul, 1), (66, .ldc2_w 242, 3), (69, .lrem, 1), (70, .lstore_n 3, 1), (71, .aload_n 0, 1), (72, .lload_n 3, 1), (73, .aload_n 0, 1), (74, .getfield 147, 3), (77, .i2l, 1), (78, .lrem, 1), (79, .l2i, 1)], [(80, .lload_n 3, 1), (81, .ldc2_w 244, 3), (84, .ldiv, 1), (85, .ldc2_w 246, 3), (88, .lrem, 1), (89, .l2i, 1), (90, .invokevirtual 186, 3), (93, .pop, 1), (94, .iload 5, 2)], [(96, .aload_n 0, 1), (97, .aload_n 0, 1), (98, .getfield 153, 3), (101, .iconst 1, 1), (102, .isub, 1), (103, .invokevirtual 176, 3), (106, .bipush (-9), 2), (108, .if_icmp .ne 7, 3), (111, .iconst 0, 1)], [(112, .goto 4, 3), (115, .iconst 1, 1), (116, .iadd, 1), (117, .istore 5, 2), (119, .iinc 6 1, 3), (122, .goto (-67), 3), (125, .iload 5, 2), (127, .ireturn, 1)]]
def xt_228 : xI := [[(0, .aload_n 0, 1), (1, .getfield 75, 3), (4, .ireturn, 1)]]
def xt_229 : xI := [[(0, .aload_n 0, 1), (1, .getfield 78, 3), (4, .lreturn, 1)]]
def xt_230 : xI := [[(0, .aload_n 0, 1), (1, .getfield 55, 3), (4, .lreturn, 1)]]
def xt_231 : xI := [[(0, .iconst 0, 1), (1, .istore_n 2, 1), (2, .iconst 0, 1), (3, .istore_n 3, 1), (4, .iload_n 3, 1), (5, .aload_n 0, 1), (6, .getfield 147, 3), (9, .if_icmp .ge 32, 3), (12, .iload_n 2, 1), (13, .aload_n 0, 1), (14, .getfield 34, 3)], [(17, .iconst 2, 1), (18, .iload_n 3, 1), (19, .imul, 1), (20, .iaload, 1), (21, .iload_n 1, 1), (22, .invokestatic 179, 3), (25, .ifCond .eq 7, 3), (28, .iconst 1, 1), (29, .goto 4, 3)], [(32, .iconst 0, 1), (33, .iadd, 1), (34, .istore_n 2, 1), (35, .iinc 3 1, 3), (38, .goto (-34), 3), (41, .iload_n 2, 1), (42, .ireturn, 1)]]
def xt_232 : xI := [[(0, .iconst 0, 1), (1, .istore_n 2, 1), (2, .iconst 0, 1), (3, .istore_n 3, 1), (4, .iload_n 3, 1), (5, .iload_n 1, 1), (6, .if_icmp .ge 23, 3), (9, .iload_n 2, 1), (10, .aload_n 0, 1), (11, .iload_n 3, 1), (12, .iaload, 1), (13, .ifCond .ge 7, 3)], [(16, .iconst 0, 1), (17, .goto 4, 3), (20, .iconst 1, 1), (21, .iadd, 1), (22, .istore_n 2, 1), (23, .iinc 3 1, 3), (26, .goto (-22), 3), (29, .iload_n 2, 1), (30, .ireturn, 1)]]
def xt_233 : xI := [[(0, .iload_n 1, 1), (1, .tableswitch 111 0 8 #[51, 56, 61, 66, 71, 77, 83, 93, 102], 51)], [], [], [(52, .aload_n 0, 1), (53, .getfield 147, 3), (56, .ireturn, 1), (57, .aload_n 0, 1), (58, .getfield 150, 3), (61, .ireturn, 1), (62, .aload_n 0, 1), (63, .getfield 153, 3)], [(66, .ireturn, 1), (67, .aload_n 0, 1), (68, .invokevirtual 189, 3), (71, .ireturn, 1), (72, .aload_n 0, 1), (73, .iconst 1, 1), (74, .invokevirtual 248, 3), (77, .ireturn, 1), (78, .aload_n 0, 1), (79, .iconst 2, 1)], [(80, .invokevirtual 248, 3), (83, .ireturn, 1), (84, .aload_n 0, 1), (85, .getfield 7, 3), (88, .bipush 6, 2), (90, .invokestatic 251, 3), (93, .ireturn, 1), (94, .aload_n 0, 1), (95, .getfield 16, 3)], [(98, .iconst 4, 1), (99, .invokestatic 251, 3), (102, .ireturn, 1), (103, .aload_n 0, 1), (104, .getfield 46, 3), (107, .iconst 3, 1), (108, .invokestatic 251, 3), (111, .ireturn, 1)], [(112, .iconst (-1), 1), (113, .ireturn, 1)]]
def xt_234 : xI := [[(0, .aload_n 0, 1), (1, .iload_n 1, 1), (2, .invokevirtual 255, 3), (5, .ireturn, 1)]]
def xt_235 : xI := [[(0, .aload_n 0, 1), (1, .getfield 71, 3), (4, .ireturn, 1)]]
def xt_236 : xI := [[(0, .iload_n 1, 1), (1, .iconst 1, 1), (2, .iconst 5, 1), (3, .invokestatic 81, 3), (6, .ifCond .eq 12, 3), (9, .aload_n 0, 1), (10, .getfield 59, 3), (13, .iload_n 1, 1), (14, .iaload, 1), (15, .goto 4, 3)], [(18, .iconst (-1), 1), (19, .ireturn, 1)]]
def xt_237 : xI := [[(0, .aload_n 0, 1), (1, .ldc2_w 258, 3), (4, .aload_n 0, 1), (5, .getfield 260, 3), (8, .lmul, 1), (9, .iload_n 1, 1), (10, .i2l, 1), (11, .ladd, 1), (12, .putfield 260, 3), (15, .return_, 1)]]
def xt_238 : xI := [[(0, .aload_n 0, 1), (1, .ldc2_w 263, 3), (4, .putfield 260, 3), (7, .iconst 0, 1), (8, .istore_n 1, 1), (9, .iload_n 1, 1), (10, .bipush 9, 2), (12, .if_icmp .ge 18, 3), (15, .aload_n 0, 1)], [(16, .aload_n 0, 1), (17, .iload_n 1, 1), (18, .invokevirtual 255, 3), (21, .invokevirtual 265, 3), (24, .iinc 1 1, 3), (27, .goto (-18), 3), (30, .iconst 0, 1), (31, .istore_n 1, 1)], [(32, .iload_n 1, 1), (33, .bipush 6, 2), (35, .if_icmp .ge 19, 3), (38, .aload_n 0, 1), (39, .aload_n 0, 1), (40, .getfield 31, 3), (43, .iload_n 1, 1), (44, .iaload, 1), (45, .invokevirtual 265, 3)], [(48, .iinc 1 1, 3), (51, .goto (-19), 3), (54, .iconst 0, 1), (55, .istore_n 1, 1), (56, .iload_n 1, 1), (57, .aload_n 0, 1), (58, .getfield 147, 3), (61, .if_icmp .ge 116, 3)], [(64, .iconst 0, 1), (65, .istore_n 2, 1), (66, .iconst 0, 1), (67, .istore_n 3, 1), (68, .iconst 0, 1), (69, .istore 4, 2), (71, .iload 4, 2), (73, .aload_n 0, 1), (74, .getfield 153, 3), (77, .if_icmp .ge 58, 3)], [(80, .iload_n 2, 1), (81, .aload_n 0, 1), (82, .getfield 43, 3), (85, .iload 4, 2), (87, .iaload, 1), (88, .iload_n 1, 1), (89, .if_icmp .ne 7, 3), (92, .iconst 1, 1), (93, .goto 4, 3)], [(96, .iconst 0, 1), (97, .iadd, 1), (98, .istore_n 2, 1), (99, .iload_n 3, 1), (100, .aload_n 0, 1), (101, .getfield 43, 3), (104, .iload 4, 2), (106, .iaload, 1), (107, .iload_n 1, 1), (108, .if_icmp .ne 18, 3), (111, .aload_n 0, 1)], [(112, .iload 4, 2), (114, .invokevirtual 176, 3), (117, .bipush (-9), 2), (119, .if_icmp .eq 7, 3), (122, .iconst 1, 1), (123, .goto 4, 3), (126, .iconst 0, 1), (127, .iadd, 1)], [(128, .istore_n 3, 1), (129, .iinc 4 1, 3), (132, .goto (-61), 3), (135, .aload_n 0, 1), (136, .aload_n 0, 1), (137, .getfield 34, 3), (140, .iconst 2, 1), (141, .iload_n 1, 1), (142, .imul, 1), (143, .iaload, 1)], [(144, .invokevirtual 265, 3), (147, .aload_n 0, 1), (148, .aload_n 0, 1), (149, .getfield 34, 3), (152, .iconst 2, 1), (153, .iload_n 1, 1), (154, .imul, 1), (155, .iconst 1, 1), (156, .iadd, 1), (157, .iaload, 1), (158, .invokevirtual 265, 3)], [(161, .aload_n 0, 1), (162, .iload_n 2, 1), (163, .invokevirtual 265, 3), (166, .aload_n 0, 1), (167, .iload_n 3, 1), (168, .invokevirtual 265, 3), (171, .iinc 1 1, 3), (174, .goto (-118), 3)], [(177, .iconst 0, 1), (178, .istore_n 1, 1), (179, .iload_n 1, 1), (180, .iconst 2, 1), (181, .aload_n 0, 1), (182, .getfield 150, 3), (185, .imul, 1), (186, .if_icmp .ge 19, 3), (189, .aload_n 0, 1), (190, .aload_n 0, 1), (191, .getfield 37, 3)], [(194, .iload_n 1, 1), (195, .iaload, 1), (196, .invokevirtual 265, 3), (199, .iinc 1 1, 3), (202, .goto (-23), 3), (205, .iconst 0, 1), (206, .istore_n 1, 1), (207, .iload_n 1, 1)], [(208, .aload_n 0, 1), (209, .getfield 153, 3), (212, .if_icmp .ge 47, 3), (215, .aload_n 0, 1), (216, .aload_n 0, 1), (217, .getfield 40, 3), (220, .iload_n 1, 1), (221, .iaload, 1), (222, .invokevirtual 265, 3)], [(225, .aload_n 0, 1), (226, .aload_n 0, 1), (227, .getfield 43, 3), (230, .iload_n 1, 1), (231, .iaload, 1), (232, .invokevirtual 265, 3), (235, .aload_n 0, 1), (236, .aload_n 0, 1), (237, .iload_n 1, 1), (238, .invokevirtual 167, 3)], [(241, .invokevirtual 265, 3), (244, .aload_n 0, 1), (245, .aload_n 0, 1), (246, .iload_n 1, 1), (247, .invokevirtual 176, 3), (250, .invokevirtual 265, 3), (253, .iinc 1 1, 3)], [(256, .goto (-49), 3), (259, .iconst 0, 1), (260, .istore_n 1, 1), (261, .iload_n 1, 1), (262, .iconst 3, 1), (263, .if_icmp .ge 19, 3), (266, .aload_n 0, 1), (267, .aload_n 0, 1), (268, .getfield 46, 3), (271, .iload_n 1, 1)], [(272, .iaload, 1), (273, .invokevirtual 265, 3), (276, .iinc 1 1, 3), (279, .goto (-18), 3), (282, .iconst 0, 1), (283, .istore_n 1, 1), (284, .iload_n 1, 1), (285, .bipush 6, 2), (287, .if_icmp .ge 52, 3)], [(290, .aload_n 0, 1), (291, .aload_n 0, 1), (292, .getfield 7, 3), (295, .iload_n 1, 1), (296, .iaload, 1), (297, .invokevirtual 265, 3), (300, .iconst 0, 1), (301, .istore_n 2, 1), (302, .iload_n 2, 1), (303, .aload_n 0, 1)], [(304, .getfield 7, 3), (307, .iload_n 1, 1), (308, .iaload, 1), (309, .if_icmp .ge 24, 3), (312, .aload_n 0, 1), (313, .aload_n 0, 1), (314, .getfield 13, 3), (317, .bipush 40, 2), (319, .iload_n 1, 1)], [(320, .imul, 1), (321, .iload_n 2, 1), (322, .iadd, 1), (323, .iaload, 1), (324, .invokevirtual 265, 3), (327, .iinc 2 1, 3), (330, .goto (-28), 3), (333, .iinc 1 1, 3)], [(336, .goto (-52), 3), (339, .iconst 0, 1), (340, .istore_n 1, 1), (341, .iload_n 1, 1), (342, .iconst 4, 1), (343, .if_icmp .ge 52, 3), (346, .aload_n 0, 1), (347, .aload_n 0, 1), (348, .getfield 16, 3), (351, .iload_n 1, 1)], [(352, .iaload, 1), (353, .invokevirtual 265, 3), (356, .iconst 0, 1), (357, .istore_n 2, 1), (358, .iload_n 2, 1), (359, .aload_n 0, 1), (360, .getfield 16, 3), (363, .iload_n 1, 1), (364, .iaload, 1), (365, .if_icmp .ge 24, 3)], [(368, .aload_n 0, 1), (369, .aload_n 0, 1), (370, .getfield 19, 3), (373, .bipush 60, 2), (375, .iload_n 1, 1), (376, .imul, 1), (377, .iload_n 2, 1), (378, .iadd, 1), (379, .iaload, 1), (380, .invokevirtual 265, 3), (383, .iinc 2 1, 3)], [(386, .goto (-28), 3), (389, .iinc 1 1, 3), (392, .goto (-51), 3), (395, .aload_n 0, 1), (396, .getfield 260, 3), (399, .lreturn, 1)]]
def xt_239 : xI := [[(0, .iload_n 0, 1), (1, .iload_n 0, 1), (2, .iconst 1, 1), (3, .iushr, 1), (4, .ldc_w 265, 3), (7, .iand, 1), (8, .isub, 1), (9, .istore_n 0, 1), (10, .iload_n 0, 1), (11, .ldc_w 266, 3), (14, .iand, 1), (15, .iload_n 0, 1)], [(16, .iconst 2, 1), (17, .iushr, 1), (18, .ldc_w 266, 3), (21, .iand, 1), (22, .iadd, 1), (23, .istore_n 0, 1), (24, .iload_n 0, 1), (25, .iload_n 0, 1), (26, .iconst 4, 1), (27, .iushr, 1), (28, .iadd, 1), (29, .ldc_w 267, 3)], [(32, .iand, 1), (33, .istore_n 0, 1), (34, .iload_n 0, 1), (35, .iload_n 0, 1), (36, .bipush 8, 2), (38, .iushr, 1), (39, .iadd, 1), (40, .istore_n 0, 1), (41, .iload_n 0, 1), (42, .iload_n 0, 1), (43, .bipush 16, 2), (45, .iushr, 1), (46, .iadd, 1), (47, .istore_n 0, 1)], [(48, .iload_n 0, 1), (49, .bipush 63, 2), (51, .iand, 1), (52, .ireturn, 1)]]
def xt_L_0 : xI := [[(0, .new 7, 3), (3, .dup, 1), (4, .invokespecial 9, 3), (7, .astore_n 1, 1), (8, .new 10, 3), (11, .dup, 1), (12, .invokespecial 12, 3), (15, .astore_n 2, 1)], [(16, .iconst 0, 1), (17, .istore_n 3, 1), (18, .iload_n 3, 1), (19, .aload_n 0, 1), (20, .arraylength, 1), (21, .bipush 6, 2), (23, .isub, 1), (24, .if_icmp .gt 1528, 3), (27, .aload_n 0, 1), (28, .iload_n 3, 1), (29, .iaload, 1), (30, .bipush 63, 2)], [(32, .iand, 1), (33, .tableswitch 1513 0 43 #[191, 224, 267, 300, 323, 386, 409, 442, 485, 508, 531, 564, 597, 620, 653, 686, 719, 732, 755, 778, 801, 844, 877, 910, 943, 976, 1019, 1062, 1095, 1128, 1171, 1204, 1237, 1260, 1283, 1326, 1369, 1402, 1415, 1428, 1441, 1464, 1477, 1500], 191)], [], [], []]
def xt_L_1 : xI := [[], [], [], [], [], []]
def xt_L_2 : xI := [[], [], [(224, .aload_n 1, 1), (225, .aload_n 0, 1), (226, .iload_n 3, 1), (227, .iconst 1, 1), (228, .iadd, 1), (229, .iaload, 1), (230, .aload_n 0, 1), (231, .iload_n 3, 1), (232, .iconst 2, 1), (233, .iadd, 1), (234, .iaload, 1), (235, .invokevirtual 13, 3), (238, .aload_n 2, 1), (239, .aload_n 0, 1)], [(240, .iload_n 3, 1), (241, .iconst 1, 1), (242, .iadd, 1), (243, .iaload, 1), (244, .aload_n 0, 1), (245, .iload_n 3, 1), (246, .iconst 2, 1), (247, .iadd, 1), (248, .iaload, 1), (249, .invokevirtual 17, 3), (252, .if_icmp .eq 1294, 3), (255, .iconst 0, 1)], [(256, .ireturn, 1), (257, .aload_n 1, 1), (258, .aload_n 0, 1), (259, .iload_n 3, 1), (260, .iconst 1, 1), (261, .iadd, 1), (262, .iaload, 1), (263, .aload_n 0, 1), (264, .iload_n 3, 1), (265, .iconst 2, 1), (266, .iadd, 1), (267, .iaload, 1), (268, .aload_n 0, 1), (269, .iload_n 3, 1), (270, .iconst 3, 1), (271, .iadd, 1)], [(272, .iaload, 1), (273, .invokevirtual 18, 3), (276, .pop, 1), (277, .aload_n 2, 1), (278, .aload_n 0, 1), (279, .iload_n 3, 1), (280, .iconst 1, 1), (281, .iadd, 1), (282, .iaload, 1), (283, .aload_n 0, 1), (284, .iload_n 3, 1), (285, .iconst 2, 1), (286, .iadd, 1), (287, .iaload, 1)]]
def xt_L_3 : xI := [[(288, .aload_n 0, 1), (289, .iload_n 3, 1), (290, .iconst 3, 1), (291, .iadd, 1), (292, .iaload, 1), (293, .invokevirtual 22, 3), (296, .pop, 1), (297, .goto 1249, 3), (300, .aload_n 1, 1), (301, .aload_n 0, 1), (302, .iload_n 3, 1), (303, .iconst 1, 1)], [(304, .iadd, 1), (305, .iaload, 1), (306, .aload_n 0, 1), (307, .iload_n 3, 1), (308, .iconst 2, 1), (309, .iadd, 1), (310, .iaload, 1), (311, .invokevirtual 23, 3), (314, .pop, 1), (315, .aload_n 2, 1), (316, .aload_n 0, 1), (317, .iload_n 3, 1), (318, .iconst 1, 1), (319, .iadd, 1)], [(320, .iaload, 1), (321, .aload_n 0, 1), (322, .iload_n 3, 1), (323, .iconst 2, 1), (324, .iadd, 1), (325, .iaload, 1), (326, .invokevirtual 26, 3), (329, .pop, 1), (330, .goto 1216, 3), (333, .aload_n 1, 1), (334, .aload_n 0, 1), (335, .iload_n 3, 1)], [(336, .iconst 1, 1), (337, .iadd, 1), (338, .iaload, 1), (339, .invokevirtual 27, 3), (342, .pop, 1), (343, .aload_n 2, 1), (344, .aload_n 0, 1), (345, .iload_n 3, 1), (346, .iconst 1, 1), (347, .iadd, 1), (348, .iaload, 1), (349, .invokevirtual 31, 3)], [(352, .pop, 1), (353, .goto 1193, 3), (356, .aload_n 1, 1), (357, .aload_n 0, 1), (358, .iload_n 3, 1), (359, .iconst 1, 1), (360, .iadd, 1), (361, .iaload, 1), (362, .aload_n 0, 1), (363, .iload_n 3, 1), (364, .iconst 2, 1), (365, .iadd, 1), (366, .iaload, 1), (367, .aload_n 0, 1)], [(368, .iload_n 3, 1), (369, .iconst 3, 1), (370, .iadd, 1), (371, .iaload, 1), (372, .aload_n 0, 1), (373, .iload_n 3, 1), (374, .iconst 4, 1), (375, .iadd, 1), (376, .iaload, 1), (377, .aload_n 0, 1), (378, .iload_n 3, 1), (379, .iconst 5, 1), (380, .iadd, 1), (381, .iaload, 1), (382, .invokevirtual 32, 3)]]
def xt_L_4 : xI := [[(385, .pop, 1), (386, .aload_n 2, 1), (387, .aload_n 0, 1), (388, .iload_n 3, 1), (389, .iconst 1, 1), (390, .iadd, 1), (391, .iaload, 1), (392, .aload_n 0, 1), (393, .iload_n 3, 1), (394, .iconst 2, 1), (395, .iadd, 1), (396, .iaload, 1), (397, .aload_n 0, 1), (398, .iload_n 3, 1), (399, .iconst 3, 1)], [(400, .iadd, 1), (401, .iaload, 1), (402, .aload_n 0, 1), (403, .iload_n 3, 1), (404, .iconst 4, 1), (405, .iadd, 1), (406, .iaload, 1), (407, .aload_n 0, 1), (408, .iload_n 3, 1), (409, .iconst 5, 1), (410, .iadd, 1), (411, .iaload, 1), (412, .invokevirtual 36, 3), (415, .pop, 1)], [(416, .goto 1130, 3), (419, .aload_n 1, 1), (420, .aload_n 0, 1), (421, .iload_n 3, 1), (422, .iconst 1, 1), (423, .iadd, 1), (424, .iaload, 1), (425, .invokevirtual 37, 3), (428, .pop, 1), (429, .aload_n 2, 1), (430, .aload_n 0, 1), (431, .iload_n 3, 1)], [(432, .iconst 1, 1), (433, .iadd, 1), (434, .iaload, 1), (435, .invokevirtual 40, 3), (438, .pop, 1), (439, .goto 1107, 3), (442, .aload_n 1, 1), (443, .aload_n 0, 1), (444, .iload_n 3, 1), (445, .iconst 1, 1), (446, .iadd, 1), (447, .iaload, 1)], [(448, .aload_n 0, 1), (449, .iload_n 3, 1), (450, .iconst 2, 1), (451, .iadd, 1), (452, .iaload, 1), (453, .invokevirtual 41, 3), (456, .pop, 1), (457, .aload_n 2, 1), (458, .aload_n 0, 1), (459, .iload_n 3, 1), (460, .iconst 1, 1), (461, .iadd, 1), (462, .iaload, 1), (463, .aload_n 0, 1)], [(464, .iload_n 3, 1), (465, .iconst 2, 1), (466, .iadd, 1), (467, .iaload, 1), (468, .invokevirtual 44, 3), (471, .pop, 1), (472, .goto 1074, 3), (475, .aload_n 1, 1), (476, .aload_n 0, 1), (477, .iload_n 3, 1), (478, .iconst 1, 1), (479, .iadd, 1)]]
def xt_L_5 : xI := [[(480, .iaload, 1), (481, .aload_n 0, 1), (482, .iload_n 3, 1), (483, .iconst 2, 1), (484, .iadd, 1), (485, .iaload, 1), (486, .aload_n 0, 1), (487, .iload_n 3, 1), (488, .iconst 3, 1), (489, .iadd, 1), (490, .iaload, 1), (491, .invokevirtual 45, 3), (494, .pop, 1), (495, .aload_n 2, 1)], [(496, .aload_n 0, 1), (497, .iload_n 3, 1), (498, .iconst 1, 1), (499, .iadd, 1), (500, .iaload, 1), (501, .aload_n 0, 1), (502, .iload_n 3, 1), (503, .iconst 2, 1), (504, .iadd, 1), (505, .iaload, 1), (506, .aload_n 0, 1), (507, .iload_n 3, 1), (508, .iconst 3, 1), (509, .iadd, 1), (510, .iaload, 1), (511, .invokevirtual 48, 3)], [(514, .pop, 1), (515, .goto 1031, 3), (518, .aload_n 1, 1), (519, .aload_n 0, 1), (520, .iload_n 3, 1), (521, .iconst 1, 1), (522, .iadd, 1), (523, .iaload, 1), (524, .invokevirtual 49, 3), (527, .pop, 1)], [(528, .aload_n 2, 1), (529, .aload_n 0, 1), (530, .iload_n 3, 1), (531, .iconst 1, 1), (532, .iadd, 1), (533, .iaload, 1), (534, .invokevirtual 52, 3), (537, .pop, 1), (538, .goto 1008, 3), (541, .aload_n 1, 1), (542, .aload_n 0, 1), (543, .iload_n 3, 1)], [(544, .iconst 1, 1), (545, .iadd, 1), (546, .iaload, 1), (547, .invokevirtual 53, 3), (550, .pop, 1), (551, .aload_n 2, 1), (552, .aload_n 0, 1), (553, .iload_n 3, 1), (554, .iconst 1, 1), (555, .iadd, 1), (556, .iaload, 1), (557, .invokevirtual 56, 3)], [(560, .pop, 1), (561, .goto 985, 3), (564, .aload_n 1, 1), (565, .aload_n 0, 1), (566, .iload_n 3, 1), (567, .iconst 1, 1), (568, .iadd, 1), (569, .iaload, 1), (570, .aload_n 0, 1), (571, .iload_n 3, 1), (572, .iconst 2, 1), (573, .iadd, 1), (574, .iaload, 1), (575, .invokevirtual 57, 3)]]
def xt_L_6 : xI := [[(578, .pop, 1), (579, .aload_n 2, 1), (580, .aload_n 0, 1), (581, .iload_n 3, 1), (582, .iconst 1, 1), (583, .iadd, 1), (584, .iaload, 1), (585, .aload_n 0, 1), (586, .iload_n 3, 1), (587, .iconst 2, 1), (588, .iadd, 1), (589, .iaload, 1), (590, .invokevirtual 60, 3)], [(593, .pop, 1), (594, .goto 952, 3), (597, .aload_n 1, 1), (598, .aload_n 0, 1), (599, .iload_n 3, 1), (600, .iconst 1, 1), (601, .iadd, 1), (602, .iaload, 1), (603, .aload_n 0, 1), (604, .iload_n 3, 1), (605, .iconst 2, 1), (606, .iadd, 1), (607, .iaload, 1)], [(608, .invokevirtual 61, 3), (611, .pop, 1), (612, .aload_n 2, 1), (613, .aload_n 0, 1), (614, .iload_n 3, 1), (615, .iconst 1, 1), (616, .iadd, 1), (617, .iaload, 1), (618, .aload_n 0, 1), (619, .iload_n 3, 1), (620, .iconst 2, 1), (621, .iadd, 1), (622, .iaload, 1), (623, .invokevirtual 64, 3)], [(626, .pop, 1), (627, .goto 919, 3), (630, .aload_n 1, 1), (631, .aload_n 0, 1), (632, .iload_n 3, 1), (633, .iconst 1, 1), (634, .iadd, 1), (635, .iaload, 1), (636, .invokevirtual 65, 3), (639, .pop, 1)], [(640, .aload_n 2, 1), (641, .aload_n 0, 1), (642, .iload_n 3, 1), (643, .iconst 1, 1), (644, .iadd, 1), (645, .iaload, 1), (646, .invokevirtual 68, 3), (649, .pop, 1), (650, .goto 896, 3), (653, .aload_n 1, 1), (654, .aload_n 0, 1), (655, .iload_n 3, 1)], [(656, .iconst 1, 1), (657, .iadd, 1), (658, .iaload, 1), (659, .aload_n 0, 1), (660, .iload_n 3, 1), (661, .iconst 2, 1), (662, .iadd, 1), (663, .iaload, 1), (664, .invokevirtual 69, 3), (667, .pop, 1), (668, .aload_n 2, 1), (669, .aload_n 0, 1), (670, .iload_n 3, 1), (671, .iconst 1, 1)]]
def xt_L_7 : xI := [[(672, .iadd, 1), (673, .iaload, 1), (674, .aload_n 0, 1), (675, .iload_n 3, 1), (676, .iconst 2, 1), (677, .iadd, 1), (678, .iaload, 1), (679, .invokevirtual 72, 3), (682, .pop, 1), (683, .goto 863, 3), (686, .aload_n 1, 1), (687, .aload_n 0, 1)], [(688, .iload_n 3, 1), (689, .iconst 1, 1), (690, .iadd, 1), (691, .iaload, 1), (692, .aload_n 0, 1), (693, .iload_n 3, 1), (694, .iconst 2, 1), (695, .iadd, 1), (696, .iaload, 1), (697, .invokevirtual 73, 3), (700, .pop, 1), (701, .aload_n 2, 1), (702, .aload_n 0, 1), (703, .iload_n 3, 1)], [(704, .iconst 1, 1), (705, .iadd, 1), (706, .iaload, 1), (707, .aload_n 0, 1), (708, .iload_n 3, 1), (709, .iconst 2, 1), (710, .iadd, 1), (711, .iaload, 1), (712, .invokevirtual 76, 3), (715, .pop, 1), (716, .goto 830, 3), (719, .aload_n 1, 1)], [(720, .aload_n 0, 1), (721, .iload_n 3, 1), (722, .iconst 1, 1), (723, .iadd, 1), (724, .iaload, 1), (725, .aload_n 0, 1), (726, .iload_n 3, 1), (727, .iconst 2, 1), (728, .iadd, 1), (729, .iaload, 1), (730, .invokevirtual 77, 3), (733, .pop, 1), (734, .aload_n 2, 1), (735, .aload_n 0, 1)], [(736, .iload_n 3, 1), (737, .iconst 1, 1), (738, .iadd, 1), (739, .iaload, 1), (740, .aload_n 0, 1), (741, .iload_n 3, 1), (742, .iconst 2, 1), (743, .iadd, 1), (744, .iaload, 1), (745, .invokevirtual 80, 3), (748, .pop, 1), (749, .goto 797, 3)], [(752, .aload_n 1, 1), (753, .invokevirtual 81, 3), (756, .pop, 1), (757, .aload_n 2, 1), (758, .invokevirtual 85, 3), (761, .pop, 1), (762, .goto 784, 3), (765, .aload_n 1, 1), (766, .aload_n 0, 1), (767, .iload_n 3, 1)]]
def xt_L_8 : xI := [[(768, .iconst 1, 1), (769, .iadd, 1), (770, .iaload, 1), (771, .invokevirtual 86, 3), (774, .pop, 1), (775, .aload_n 2, 1), (776, .aload_n 0, 1), (777, .iload_n 3, 1), (778, .iconst 1, 1), (779, .iadd, 1), (780, .iaload, 1), (781, .invokevirtual 89, 3)], [(784, .pop, 1), (785, .goto 761, 3), (788, .aload_n 1, 1), (789, .aload_n 0, 1), (790, .iload_n 3, 1), (791, .iconst 1, 1), (792, .iadd, 1), (793, .iaload, 1), (794, .invokevirtual 90, 3), (797, .pop, 1), (798, .aload_n 2, 1), (799, .aload_n 0, 1)], [(800, .iload_n 3, 1), (801, .iconst 1, 1), (802, .iadd, 1), (803, .iaload, 1), (804, .invokevirtual 93, 3), (807, .pop, 1), (808, .goto 738, 3), (811, .aload_n 1, 1), (812, .aload_n 0, 1), (813, .iload_n 3, 1), (814, .iconst 1, 1), (815, .iadd, 1)], [(816, .iaload, 1), (817, .invokevirtual 94, 3), (820, .pop, 1), (821, .aload_n 2, 1), (822, .aload_n 0, 1), (823, .iload_n 3, 1), (824, .iconst 1, 1), (825, .iadd, 1), (826, .iaload, 1), (827, .invokevirtual 97, 3), (830, .pop, 1), (831, .goto 715, 3)], [(834, .aload_n 1, 1), (835, .aload_n 0, 1), (836, .iload_n 3, 1), (837, .iconst 1, 1), (838, .iadd, 1), (839, .iaload, 1), (840, .aload_n 0, 1), (841, .iload_n 3, 1), (842, .iconst 2, 1), (843, .iadd, 1), (844, .iaload, 1), (845, .aload_n 0, 1), (846, .iload_n 3, 1), (847, .iconst 3, 1)], [(848, .iadd, 1), (849, .iaload, 1), (850, .invokevirtual 98, 3), (853, .pop, 1), (854, .aload_n 2, 1), (855, .aload_n 0, 1), (856, .iload_n 3, 1), (857, .iconst 1, 1), (858, .iadd, 1), (859, .iaload, 1), (860, .aload_n 0, 1), (861, .iload_n 3, 1), (862, .iconst 2, 1), (863, .iadd, 1)]]
def xt_L_9 : xI := [[(864, .iaload, 1), (865, .aload_n 0, 1), (866, .iload_n 3, 1), (867, .iconst 3, 1), (868, .iadd, 1), (869, .iaload, 1), (870, .invokevirtual 101, 3), (873, .pop, 1), (874, .goto 672, 3), (877, .aload_n 1, 1), (878, .aload_n 0, 1), (879, .iload_n 3, 1)], [(880, .iconst 1, 1), (881, .iadd, 1), (882, .iaload, 1), (883, .aload_n 0, 1), (884, .iload_n 3, 1), (885, .iconst 2, 1), (886, .iadd, 1), (887, .iaload, 1), (888, .invokevirtual 102, 3), (891, .pop, 1), (892, .aload_n 2, 1), (893, .aload_n 0, 1), (894, .iload_n 3, 1), (895, .iconst 1, 1)], [(896, .iadd, 1), (897, .iaload, 1), (898, .aload_n 0, 1), (899, .iload_n 3, 1), (900, .iconst 2, 1), (901, .iadd, 1), (902, .iaload, 1), (903, .invokevirtual 105, 3), (906, .pop, 1), (907, .goto 639, 3), (910, .aload_n 1, 1), (911, .aload_n 0, 1)], [(912, .iload_n 3, 1), (913, .iconst 1, 1), (914, .iadd, 1), (915, .iaload, 1), (916, .aload_n 0, 1), (917, .iload_n 3, 1), (918, .iconst 2, 1), (919, .iadd, 1), (920, .iaload, 1), (921, .invokevirtual 106, 3), (924, .pop, 1), (925, .aload_n 2, 1), (926, .aload_n 0, 1), (927, .iload_n 3, 1)], [(928, .iconst 1, 1), (929, .iadd, 1), (930, .iaload, 1), (931, .aload_n 0, 1), (932, .iload_n 3, 1), (933, .iconst 2, 1), (934, .iadd, 1), (935, .iaload, 1), (936, .invokevirtual 109, 3), (939, .pop, 1), (940, .goto 606, 3), (943, .aload_n 1, 1)], [(944, .aload_n 0, 1), (945, .iload_n 3, 1), (946, .iconst 1, 1), (947, .iadd, 1), (948, .iaload, 1), (949, .aload_n 0, 1), (950, .iload_n 3, 1), (951, .iconst 2, 1), (952, .iadd, 1), (953, .iaload, 1), (954, .invokevirtual 110, 3), (957, .pop, 1), (958, .aload_n 2, 1), (959, .aload_n 0, 1)]]
def xt_L_10 : xI := [[(960, .iload_n 3, 1), (961, .iconst 1, 1), (962, .iadd, 1), (963, .iaload, 1), (964, .aload_n 0, 1), (965, .iload_n 3, 1), (966, .iconst 2, 1), (967, .iadd, 1), (968, .iaload, 1), (969, .invokevirtual 113, 3), (972, .pop, 1), (973, .goto 573, 3)], [(976, .aload_n 1, 1), (977, .aload_n 0, 1), (978, .iload_n 3, 1), (979, .iconst 1, 1), (980, .iadd, 1), (981, .iaload, 1), (982, .aload_n 0, 1), (983, .iload_n 3, 1), (984, .iconst 2, 1), (985, .iadd, 1), (986, .iaload, 1), (987, .invokevirtual 114, 3), (990, .pop, 1), (991, .aload_n 2, 1)], [(992, .aload_n 0, 1), (993, .iload_n 3, 1), (994, .iconst 1, 1), (995, .iadd, 1), (996, .iaload, 1), (997, .aload_n 0, 1), (998, .iload_n 3, 1), (999, .iconst 2, 1), (1000, .iadd, 1), (1001, .iaload, 1), (1002, .invokevirtual 117, 3), (1005, .pop, 1), (1006, .goto 540, 3)], [(1009, .aload_n 1, 1), (1010, .aload_n 0, 1), (1011, .iload_n 3, 1), (1012, .iconst 1, 1), (1013, .iadd, 1), (1014, .iaload, 1), (1015, .aload_n 0, 1), (1016, .iload_n 3, 1), (1017, .iconst 2, 1), (1018, .iadd, 1), (1019, .iaload, 1), (1020, .aload_n 0, 1), (1021, .iload_n 3, 1), (1022, .iconst 3, 1), (1023, .iadd, 1)], [(1024, .iaload, 1), (1025, .invokevirtual 118, 3), (1028, .pop, 1), (1029, .aload_n 2, 1), (1030, .aload_n 0, 1), (1031, .iload_n 3, 1), (1032, .iconst 1, 1), (1033, .iadd, 1), (1034, .iaload, 1), (1035, .aload_n 0, 1), (1036, .iload_n 3, 1), (1037, .iconst 2, 1), (1038, .iadd, 1), (1039, .iaload, 1)], [(1040, .aload_n 0, 1), (1041, .iload_n 3, 1), (1042, .iconst 3, 1), (1043, .iadd, 1), (1044, .iaload, 1), (1045, .invokevirtual 121, 3), (1048, .pop, 1), (1049, .goto 497, 3), (1052, .aload_n 1, 1), (1053, .aload_n 0, 1), (1054, .iload_n 3, 1), (1055, .iconst 1, 1)]]
def xt_L_11 : xI := [[(1056, .iadd, 1), (1057, .iaload, 1), (1058, .aload_n 0, 1), (1059, .iload_n 3, 1), (1060, .iconst 2, 1), (1061, .iadd, 1), (1062, .iaload, 1), (1063, .aload_n 0, 1), (1064, .iload_n 3, 1), (1065, .iconst 3, 1), (1066, .iadd, 1), (1067, .iaload, 1), (1068, .invokevirtual 122, 3), (1071, .pop, 1)], [(1072, .aload_n 2, 1), (1073, .aload_n 0, 1), (1074, .iload_n 3, 1), (1075, .iconst 1, 1), (1076, .iadd, 1), (1077, .iaload, 1), (1078, .aload_n 0, 1), (1079, .iload_n 3, 1), (1080, .iconst 2, 1), (1081, .iadd, 1), (1082, .iaload, 1), (1083, .aload_n 0, 1), (1084, .iload_n 3, 1), (1085, .iconst 3, 1), (1086, .iadd, 1), (1087, .iaload, 1)], [(1088, .invokevirtual 125, 3), (1091, .pop, 1), (1092, .goto 454, 3), (1095, .aload_n 1, 1), (1096, .aload_n 0, 1), (1097, .iload_n 3, 1), (1098, .iconst 1, 1), (1099, .iadd, 1), (1100, .iaload, 1), (1101, .aload_n 0, 1), (1102, .iload_n 3, 1), (1103, .iconst 2, 1)], [(1104, .iadd, 1), (1105, .iaload, 1), (1106, .invokevirtual 126, 3), (1109, .pop, 1), (1110, .aload_n 2, 1), (1111, .aload_n 0, 1), (1112, .iload_n 3, 1), (1113, .iconst 1, 1), (1114, .iadd, 1), (1115, .iaload, 1), (1116, .aload_n 0, 1), (1117, .iload_n 3, 1), (1118, .iconst 2, 1), (1119, .iadd, 1)], [(1120, .iaload, 1), (1121, .invokevirtual 129, 3), (1124, .pop, 1), (1125, .goto 421, 3), (1128, .aload_n 1, 1), (1129, .aload_n 0, 1), (1130, .iload_n 3, 1), (1131, .iconst 1, 1), (1132, .iadd, 1), (1133, .iaload, 1), (1134, .aload_n 0, 1), (1135, .iload_n 3, 1)], [(1136, .iconst 2, 1), (1137, .iadd, 1), (1138, .iaload, 1), (1139, .invokevirtual 130, 3), (1142, .pop, 1), (1143, .aload_n 2, 1), (1144, .aload_n 0, 1), (1145, .iload_n 3, 1), (1146, .iconst 1, 1), (1147, .iadd, 1), (1148, .iaload, 1), (1149, .aload_n 0, 1), (1150, .iload_n 3, 1), (1151, .iconst 2, 1)]]
def xt_L_12 : xI := [[(1152, .iadd, 1), (1153, .iaload, 1), (1154, .invokevirtual 133, 3), (1157, .pop, 1), (1158, .goto 388, 3), (1161, .aload_n 1, 1), (1162, .aload_n 0, 1), (1163, .iload_n 3, 1), (1164, .iconst 1, 1), (1165, .iadd, 1), (1166, .iaload, 1), (1167, .aload_n 0, 1)], [(1168, .iload_n 3, 1), (1169, .iconst 2, 1), (1170, .iadd, 1), (1171, .iaload, 1), (1172, .aload_n 0, 1), (1173, .iload_n 3, 1), (1174, .iconst 3, 1), (1175, .iadd, 1), (1176, .iaload, 1), (1177, .invokevirtual 134, 3), (1180, .pop, 1), (1181, .aload_n 2, 1), (1182, .aload_n 0, 1), (1183, .iload_n 3, 1)], [(1184, .iconst 1, 1), (1185, .iadd, 1), (1186, .iaload, 1), (1187, .aload_n 0, 1), (1188, .iload_n 3, 1), (1189, .iconst 2, 1), (1190, .iadd, 1), (1191, .iaload, 1), (1192, .aload_n 0, 1), (1193, .iload_n 3, 1), (1194, .iconst 3, 1), (1195, .iadd, 1), (1196, .iaload, 1), (1197, .invokevirtual 137, 3)], [(1200, .pop, 1), (1201, .goto 345, 3), (1204, .aload_n 1, 1), (1205, .aload_n 0, 1), (1206, .iload_n 3, 1), (1207, .iconst 1, 1), (1208, .iadd, 1), (1209, .iaload, 1), (1210, .aload_n 0, 1), (1211, .iload_n 3, 1), (1212, .iconst 2, 1), (1213, .iadd, 1), (1214, .iaload, 1), (1215, .invokevirtual 138, 3)], [(1218, .pop, 1), (1219, .aload_n 2, 1), (1220, .aload_n 0, 1), (1221, .iload_n 3, 1), (1222, .iconst 1, 1), (1223, .iadd, 1), (1224, .iaload, 1), (1225, .aload_n 0, 1), (1226, .iload_n 3, 1), (1227, .iconst 2, 1), (1228, .iadd, 1), (1229, .iaload, 1), (1230, .invokevirtual 141, 3)], [(1233, .pop, 1), (1234, .goto 312, 3), (1237, .aload_n 1, 1), (1238, .aload_n 0, 1), (1239, .iload_n 3, 1), (1240, .iconst 1, 1), (1241, .iadd, 1), (1242, .iaload, 1), (1243, .aload_n 0, 1), (1244, .iload_n 3, 1), (1245, .iconst 2, 1), (1246, .iadd, 1), (1247, .iaload, 1)]]
def xt_L_13 : xI := [[(1248, .invokevirtual 142, 3), (1251, .pop, 1), (1252, .aload_n 2, 1), (1253, .aload_n 0, 1), (1254, .iload_n 3, 1), (1255, .iconst 1, 1), (1256, .iadd, 1), (1257, .iaload, 1), (1258, .aload_n 0, 1), (1259, .iload_n 3, 1), (1260, .iconst 2, 1), (1261, .iadd, 1), (1262, .iaload, 1), (1263, .invokevirtual 145, 3)], [(1266, .pop, 1), (1267, .goto 279, 3), (1270, .aload_n 1, 1), (1271, .aload_n 0, 1), (1272, .iload_n 3, 1), (1273, .iconst 1, 1), (1274, .iadd, 1), (1275, .iaload, 1), (1276, .invokevirtual 146, 3), (1279, .pop, 1)], [(1280, .aload_n 2, 1), (1281, .aload_n 0, 1), (1282, .iload_n 3, 1), (1283, .iconst 1, 1), (1284, .iadd, 1), (1285, .iaload, 1), (1286, .invokevirtual 149, 3), (1289, .pop, 1), (1290, .goto 256, 3), (1293, .aload_n 1, 1), (1294, .aload_n 0, 1), (1295, .iload_n 3, 1)], [(1296, .iconst 1, 1), (1297, .iadd, 1), (1298, .iaload, 1), (1299, .invokevirtual 150, 3), (1302, .pop, 1), (1303, .aload_n 2, 1), (1304, .aload_n 0, 1), (1305, .iload_n 3, 1), (1306, .iconst 1, 1), (1307, .iadd, 1), (1308, .iaload, 1), (1309, .invokevirtual 153, 3)], [(1312, .pop, 1), (1313, .goto 233, 3), (1316, .aload_n 1, 1), (1317, .aload_n 0, 1), (1318, .iload_n 3, 1), (1319, .iconst 1, 1), (1320, .iadd, 1), (1321, .iaload, 1), (1322, .aload_n 0, 1), (1323, .iload_n 3, 1), (1324, .iconst 2, 1), (1325, .iadd, 1), (1326, .iaload, 1), (1327, .aload_n 0, 1)], [(1328, .iload_n 3, 1), (1329, .iconst 3, 1), (1330, .iadd, 1), (1331, .iaload, 1), (1332, .invokevirtual 154, 3), (1335, .pop, 1), (1336, .aload_n 2, 1), (1337, .aload_n 0, 1), (1338, .iload_n 3, 1), (1339, .iconst 1, 1), (1340, .iadd, 1), (1341, .iaload, 1), (1342, .aload_n 0, 1), (1343, .iload_n 3, 1)]]
def xt_L_14 : xI := [[(1344, .iconst 2, 1), (1345, .iadd, 1), (1346, .iaload, 1), (1347, .aload_n 0, 1), (1348, .iload_n 3, 1), (1349, .iconst 3, 1), (1350, .iadd, 1), (1351, .iaload, 1), (1352, .invokevirtual 157, 3), (1355, .pop, 1), (1356, .goto 190, 3), (1359, .aload_n 1, 1)], [(1360, .aload_n 0, 1), (1361, .iload_n 3, 1), (1362, .iconst 1, 1), (1363, .iadd, 1), (1364, .iaload, 1), (1365, .aload_n 0, 1), (1366, .iload_n 3, 1), (1367, .iconst 2, 1), (1368, .iadd, 1), (1369, .iaload, 1), (1370, .aload_n 0, 1), (1371, .iload_n 3, 1), (1372, .iconst 3, 1), (1373, .iadd, 1), (1374, .iaload, 1), (1375, .invokevirtual 158, 3)], [(1378, .pop, 1), (1379, .aload_n 2, 1), (1380, .aload_n 0, 1), (1381, .iload_n 3, 1), (1382, .iconst 1, 1), (1383, .iadd, 1), (1384, .iaload, 1), (1385, .aload_n 0, 1), (1386, .iload_n 3, 1), (1387, .iconst 2, 1), (1388, .iadd, 1), (1389, .iaload, 1), (1390, .aload_n 0, 1), (1391, .iload_n 3, 1)], [(1392, .iconst 3, 1), (1393, .iadd, 1), (1394, .iaload, 1), (1395, .invokevirtual 161, 3), (1398, .pop, 1), (1399, .goto 147, 3), (1402, .aload_n 1, 1), (1403, .aload_n 0, 1), (1404, .iload_n 3, 1), (1405, .iconst 1, 1), (1406, .iadd, 1), (1407, .iaload, 1)], [(1408, .aload_n 0, 1), (1409, .iload_n 3, 1), (1410, .iconst 2, 1), (1411, .iadd, 1), (1412, .iaload, 1), (1413, .invokevirtual 162, 3), (1416, .pop, 1), (1417, .aload_n 2, 1), (1418, .aload_n 0, 1), (1419, .iload_n 3, 1), (1420, .iconst 1, 1), (1421, .iadd, 1), (1422, .iaload, 1), (1423, .aload_n 0, 1)], [(1424, .iload_n 3, 1), (1425, .iconst 2, 1), (1426, .iadd, 1), (1427, .iaload, 1), (1428, .invokevirtual 165, 3), (1431, .pop, 1), (1432, .goto 114, 3), (1435, .aload_n 1, 1), (1436, .invokevirtual 166, 3), (1439, .pop, 1)]]
def xt_L_15 : xI := [[(1440, .aload_n 2, 1), (1441, .invokevirtual 169, 3), (1444, .pop, 1), (1445, .goto 101, 3), (1448, .aload_n 1, 1), (1449, .invokevirtual 170, 3), (1452, .pop2, 1), (1453, .aload_n 2, 1), (1454, .invokevirtual 174, 3)], [(1457, .pop2, 1), (1458, .goto 88, 3), (1461, .aload_n 1, 1), (1462, .invokevirtual 175, 3), (1465, .pop2, 1), (1466, .aload_n 2, 1), (1467, .invokevirtual 178, 3), (1470, .pop2, 1), (1471, .goto 75, 3)], [(1474, .aload_n 1, 1), (1475, .aload_n 0, 1), (1476, .iload_n 3, 1), (1477, .iconst 1, 1), (1478, .iadd, 1), (1479, .iaload, 1), (1480, .invokevirtual 179, 3), (1483, .pop, 1), (1484, .aload_n 2, 1), (1485, .aload_n 0, 1), (1486, .iload_n 3, 1), (1487, .iconst 1, 1)], [(1488, .iadd, 1), (1489, .iaload, 1), (1490, .invokevirtual 182, 3), (1493, .pop, 1), (1494, .goto 52, 3), (1497, .aload_n 1, 1), (1498, .invokevirtual 183, 3), (1501, .pop, 1), (1502, .aload_n 2, 1), (1503, .invokevirtual 186, 3)], [(1506, .pop, 1), (1507, .goto 39, 3), (1510, .aload_n 1, 1), (1511, .aload_n 0, 1), (1512, .iload_n 3, 1), (1513, .iconst 1, 1), (1514, .iadd, 1), (1515, .iaload, 1), (1516, .invokevirtual 187, 3), (1519, .pop, 1)], [(1520, .aload_n 2, 1), (1521, .aload_n 0, 1), (1522, .iload_n 3, 1), (1523, .iconst 1, 1), (1524, .iadd, 1), (1525, .iaload, 1), (1526, .invokevirtual 190, 3), (1529, .pop, 1), (1530, .goto 16, 3), (1533, .aload_n 1, 1), (1534, .invokevirtual 191, 3)]]
def xt_L_16 : xI := [[(1537, .pop2, 1), (1538, .aload_n 2, 1), (1539, .invokevirtual 194, 3), (1542, .pop2, 1), (1543, .goto 3, 3), (1546, .iinc 3 6, 3), (1549, .goto (-1531), 3)], [(1552, .iconst 1, 1), (1553, .ireturn, 1)]]
def xt_L : xI := xt_L_0 ++ (xt_L_1 ++ (xt_L_2 ++ (xt_L_3 ++ (xt_L_4 ++ (xt_L_5 ++ (xt_L_6 ++ (xt_L_7 ++ (xt_L_8 ++ (xt_L_9 ++ (xt_L_10 ++ (xt_L_11 ++ (xt_L_12 ++ (xt_L_13 ++ (xt_L_14 ++ (xt_L_15 ++ (xt_L_16))))))))))))))))
def xMX_0 : List xME := [((xt_0, 0, 2, 0, true), (yX0_init, cX0_init, none, 1)),
  ((xt_1, 0, 1, 2, false), (yX0_isMissing, cX0_isMissing, (some .boolean), 0)),
  ((xt_2, 0, 1, 1, false), (yX0_size, cX0_size, (some .int), 0)),
  ((xt_3, 0, 2, 2, false), (yX0_has, cX0_has, (some .boolean), 1)),
  ((xt_4, 0, 3, 2, false), (yX0_hasPlaces, cX0_hasPlaces, (some .boolean), 2)),
  ((xt_5, 0, 2, 1, false), (yX0_get, cX0_get, (some .int), 1)),
  ((xt_6, 0, 3, 0, false), (yX0_set, cX0_set, none, 2)),
  ((xt_7, 0, 4, 0, false), (yX0_open, cX0_open, none, 2)),
  ((xt_8, 0, 1, 0, false), (yX0_drop, cX0_drop, none, 0)),
  ((xt_9, 0, 5, 0, false), (yX0_take, cX0_take, none, 4)),
  ((xt_10, 0, 2, 0, false), (yX0_takeAll, cX0_takeAll, none, 1)),
  ((xt_11, 0, 2, 1, false), (yX0_stepAt, cX0_stepAt, (some .int), 1)),
  ((xt_12, 1, 1, 0, true), (yX1_init, cX1_init, none, 0)),
  ((xt_13, 1, 1, 1, false), (yX1_rows, cX1_rows, (some .int), 0)),
  ((xt_14, 1, 1, 1, false), (yX1_fewestStill, cX1_fewestStill, (some .int), 0)),
  ((xt_15, 1, 1, 1, false), (yX1_firstSteps, cX1_firstSteps, (some .int), 0))]
def xMX_1 : List xME := [((xt_16, 1, 7, 0, false), (yX1_weigh, cX1_weigh, none, 3)),
  ((xt_17, 1, 3, 2, false), (yX1_isHead, cX1_isHead, (some .boolean), 2)),
  ((xt_18, 1, 4, 1, false), (yX1_heirOf, cX1_heirOf, (some .int), 3)),
  ((xt_19, 1, 10, 0, false), (yX1_weighStep, cX1_weighStep, none, 5)),
  ((xt_20, 1, 4, 1, false), (yX1_shownAtHead, cX1_shownAtHead, (some .int), 4)),
  ((xt_21, 1, 6, 0, false), (yX1_addChain, cX1_addChain, none, 1)),
  ((xt_22, 2, 1, 0, true), (yX2_init, cX2_init, none, 0)),
  ((xt_23, 2, 1, 1, false), (yX2_size, cX2_size, (some .int), 0)),
  ((xt_24, 2, 1, 2, false), (yX2_isMissing, cX2_isMissing, (some .boolean), 0)),
  ((xt_25, 2, 1, 0, false), (yX2_drop, cX2_drop, none, 0)),
  ((xt_26, 2, 4, 1, false), (yX2_fact, cX2_fact, (some .int), 2)),
  ((xt_27, 2, 4, 0, false), (yX2_write, cX2_write, none, 3)),
  ((xt_28, 2, 3, 0, false), (yX2_add, cX2_add, none, 2)),
  ((xt_29, 2, 4, 0, false), (yX2_see, cX2_see, none, 3)),
  ((xt_30, 2, 2, 0, false), (yX2_cutTo, cX2_cutTo, none, 1)),
  ((xt_31, 2, 2, 0, false), (yX2_takeAll, cX2_takeAll, none, 1))]
def xMX_2 : List xME := [((xt_32, 2, 4, 1, false), (yX2_howManyBefore, cX2_howManyBefore, (some .int), 1)),
  ((xt_33, 2, 4, 1, false), (yX2_howManyBrokeBefore, cX2_howManyBrokeBefore, (some .int), 1)),
  ((xt_34, 2, 4, 1, false), (yX2_howManyBroke, cX2_howManyBroke, (some .int), 1)),
  ((xt_35, 2, 2, 1, false), (yX2_firstThatBroke, cX2_firstThatBroke, (some .int), 0)),
  ((xt_36, 2, 2, 1, false), (yX2_stepAt, cX2_stepAt, (some .int), 1)),
  ((xt_37, 3, 1, 0, true), (yX3_init, cX3_init, none, 0)),
  ((xt_38, 4, 3, 0, true), (yX4_init, cX4_init, none, 2)),
  ((xt_39, 4, 2, 1, false), (yX4_source, cX4_source, (some .int), 1)),
  ((xt_40, 4, 2, 2, false), (yX4_thinks, cX4_thinks, (some .boolean), 1)),
  ((xt_41, 5, 3, 0, true), (yX5_init, cX5_init, none, 2)),
  ((xt_42, 5, 2, 1, false), (yX5_source, cX5_source, (some .int), 1)),
  ((xt_43, 5, 2, 2, false), (yX5_isOf, cX5_isOf, (some .boolean), 1)),
  ((xt_44, 6, 3, 0, true), (yX6_init, cX6_init, none, 2)),
  ((xt_45, 6, 2, 1, false), (yX6_source, cX6_source, (some .int), 1)),
  ((xt_46, 6, 1, 1, false), (yX6_placesToLimp, cX6_placesToLimp, (some .int), 1)),
  ((xt_47, 7, 3, 0, true), (yX7_init, cX7_init, none, 2))]
def xMX_3 : List xME := [((xt_48, 7, 1, 1, false), (yX7_kind, cX7_kind, (some .int), 0)),
  ((xt_49, 7, 1, 1, false), (yX7_delay, cX7_delay, (some .int), 0)),
  ((xt_50, 7, 2, 2, false), (yX7_isOf, cX7_isOf, (some .boolean), 1)),
  ((xt_51, 7, 2, 1, false), (yX7_source, cX7_source, (some .int), 1)),
  ((xt_52, 7, 2, 2, false), (yX7_thinks, cX7_thinks, (some .boolean), 1)),
  ((xt_53, 7, 1, 2, false), (yX7_isOdd, cX7_isOdd, (some .boolean), 1)),
  ((xt_54, 8, 1, 0, true), (yX8_init, cX8_init, none, 0)),
  ((xt_55, 8, 1, 1, false), (yX8_glasses, cX8_glasses, (some .int), 0)),
  ((xt_56, 8, 1, 1, false), (yX8_terms, cX8_terms, (some .int), 0)),
  ((xt_57, 8, 2, 1, false), (yX8_lawOf, cX8_lawOf, (some .int), 1)),
  ((xt_58, 8, 3, 1, false), (yX8_termStep, cX8_termStep, (some .int), 2)),
  ((xt_59, 8, 2, 1, false), (yX8_thought, cX8_thought, (some .int), 1)),
  ((xt_60, 8, 5, 1, false), (yX8_seen, cX8_seen, (some .int), 3)),
  ((xt_61, 8, 5, 1, false), (yX8_shown, cX8_shown, (some .int), 3)),
  ((xt_62, 8, 6, 1, false), (yX8_stepsSeenAs, cX8_stepsSeenAs, (some .int), 3)),
  ((xt_63, 8, 4, 1, false), (yX8_firstBroken, cX8_firstBroken, (some .int), 2))]
def xMX_4 : List xME := [((xt_64, 8, 3, 2, false), (yX8_isBroken, cX8_isBroken, (some .boolean), 2)),
  ((xt_65, 8, 4, 1, false), (yX8_read, cX8_read, (some .int), 1)),
  ((xt_66, 8, 7, 1, false), (yX8_readItems, cX8_readItems, (some .int), 2)),
  ((xt_67, 8, 4, 1, false), (yX8_readGlass, cX8_readGlass, (some .int), 2)),
  ((xt_68, 8, 5, 1, false), (yX8_readTerm, cX8_readTerm, (some .int), 2)),
  ((xt_69, 8, 2, 1, false), (yX8_kindOf, cX8_kindOf, (some .int), 1)),
  ((xt_70, 8, 3, 1, false), (yX8_afterBlanks, cX8_afterBlanks, (some .int), 2)),
  ((xt_71, 8, 3, 2, false), (yX8_isFigure, cX8_isFigure, (some .boolean), 3)),
  ((xt_72, 9, 3, 0, true), (yX9_init, cX9_init, none, 2)),
  ((xt_73, 9, 2, 1, false), (yX9_source, cX9_source, (some .int), 1)),
  ((xt_74, 9, 2, 2, false), (yX9_isOf, cX9_isOf, (some .boolean), 1)),
  ((xt_75, 10, 3, 0, true), (yX10_init, cX10_init, none, 2)),
  ((xt_76, 10, 2, 2, false), (yX10_thinks, cX10_thinks, (some .boolean), 1)),
  ((xt_77, 11, 2, 0, true), (yX11_init, cX11_init, none, 0)),
  ((xt_78, 11, 3, 1, false), (yX11_row, cX11_row, (some .int), 2)),
  ((xt_79, 11, 5, 1, false), (yX11_lay, cX11_lay, (some .int), 3))]
def xMX_5 : List xME := [((xt_80, 11, 4, 1, false), (yX11_at, cX11_at, (some .int), 2)),
  ((xt_81, 11, 2, 1, false), (yX11_tear, cX11_tear, (some .int), 1)),
  ((xt_82, 11, 6, 1, false), (yX11_copy, cX11_copy, (some .int), 5)),
  ((xt_83, 11, 7, 1, false), (yX11_mean, cX11_mean, (some .int), 1)),
  ((xt_84, 11, 3, 1, false), (yX11_text, cX11_text, (some .int), 2)),
  ((xt_85, 11, 6, 1, false), (yX11_put, cX11_put, (some .int), 3)),
  ((xt_86, 11, 2, 1, false), (yX11_fault, cX11_fault, (some .int), 1)),
  ((xt_87, 11, 4, 1, false), (yX11_room, cX11_room, (some .int), 1)),
  ((xt_88, 11, 3, 1, false), (yX11_glass, cX11_glass, (some .int), 2)),
  ((xt_89, 11, 5, 1, false), (yX11_mark, cX11_mark, (some .int), 2)),
  ((xt_90, 11, 2, 1, false), (yX11_habit, cX11_habit, (some .int), 1)),
  ((xt_91, 11, 3, 1, false), (yX11_term, cX11_term, (some .int), 2)),
  ((xt_92, 11, 3, 1, false), (yX11_step, cX11_step, (some .int), 2)),
  ((xt_93, 11, 3, 1, false), (yX11_deed, cX11_deed, (some .int), 2)),
  ((xt_94, 11, 1, 1, false), (yX11_broken, cX11_broken, (some .int), 0)),
  ((xt_95, 11, 3, 1, false), (yX11_undo, cX11_undo, (some .int), 1))]
def xMX_6 : List xME := [((xt_96, 11, 2, 1, false), (yX11_keep, cX11_keep, (some .int), 1)),
  ((xt_97, 11, 2, 1, false), (yX11_on, cX11_on, (some .int), 1)),
  ((xt_98, 11, 8, 1, false), (yX11_show, cX11_show, (some .int), 3)),
  ((xt_99, 11, 8, 1, false), (yX11_breaks, cX11_breaks, (some .int), 2)),
  ((xt_100, 11, 7, 1, false), (yX11_alike, cX11_alike, (some .int), 2)),
  ((xt_101, 11, 7, 1, false), (yX11_fit, cX11_fit, (some .int), 2)),
  ((xt_102, 11, 7, 1, false), (yX11_ways, cX11_ways, (some .int), 2)),
  ((xt_103, 11, 7, 1, false), (yX11_first, cX11_first, (some .int), 3)),
  ((xt_104, 11, 5, 1, false), (yX11_can, cX11_can, (some .int), 3)),
  ((xt_105, 11, 4, 1, false), (yX11_laws, cX11_laws, (some .int), 2)),
  ((xt_106, 11, 10, 1, false), (yX11_next, cX11_next, (some .int), 2)),
  ((xt_107, 11, 7, 1, false), (yX11_he, cX11_he, (some .int), 3)),
  ((xt_108, 11, 3, 1, false), (yX11_keeps, cX11_keeps, (some .int), 2)),
  ((xt_109, 11, 3, 1, false), (yX11_still, cX11_still, (some .int), 2)),
  ((xt_110, 11, 2, 1, false), (yX11_game, cX11_game, (some .int), 1)),
  ((xt_111, 11, 2, 1, false), (yX11_picks, cX11_picks, (some .int), 1))]
def xMX_7 : List xME := [((xt_112, 11, 10, 1, false), (yX11_odds, cX11_odds, (some .int), 3)),
  ((xt_113, 11, 8, 1, false), (yX11_mid, cX11_mid, (some .int), 3)),
  ((xt_114, 11, 8, 1, false), (yX11_lots, cX11_lots, (some .int), 2)),
  ((xt_115, 11, 1, 1, false), (yX11_asked, cX11_asked, (some .int), 0)),
  ((xt_116, 11, 1, 3, false), (yX11_upper, cX11_upper, (some .long), 0)),
  ((xt_117, 11, 1, 3, false), (yX11_lower, cX11_lower, (some .long), 0)),
  ((xt_118, 11, 2, 1, false), (yX11_count, cX11_count, (some .int), 1)),
  ((xt_119, 11, 1, 1, false), (yX11_finding, cX11_finding, (some .int), 0)),
  ((xt_120, 11, 2, 1, false), (yX11_findings, cX11_findings, (some .int), 1)),
  ((xt_121, 11, 5, 3, false), (yX11_digest, cX11_digest, (some .long), 0)),
  ((xt_122, 11, 2, 1, false), (yX11_refuse, cX11_refuse, (some .int), 1)),
  ((xt_123, 11, 1, 2, false), (yX11_isRow, cX11_isRow, (some .boolean), 1)),
  ((xt_124, 11, 1, 2, false), (yX11_isText, cX11_isText, (some .boolean), 1)),
  ((xt_125, 11, 1, 2, false), (yX11_isKept, cX11_isKept, (some .boolean), 1)),
  ((xt_126, 11, 1, 2, false), (yX11_isStep, cX11_isStep, (some .boolean), 1)),
  ((xt_127, 11, 2, 2, false), (yX11_isGlass, cX11_isGlass, (some .boolean), 1))]
def xMX_8 : List xME := [((xt_128, 11, 2, 1, false), (yX11_findingOfPlace, cX11_findingOfPlace, (some .int), 2)),
  ((xt_129, 11, 3, 1, false), (yX11_findingOfSteps, cX11_findingOfSteps, (some .int), 2)),
  ((xt_130, 11, 4, 1, false), (yX11_findingOfPair, cX11_findingOfPair, (some .int), 3)),
  ((xt_131, 11, 2, 4, false), (yX11_newPane, cX11_newPane, (some (.object "LimpMirror$Pane")), 2)),
  ((xt_132, 11, 3, 4, false), (yX11_paneOf, cX11_paneOf, (some (.object "LimpMirror$Pane")), 1)),
  ((xt_133, 11, 3, 1, false), (yX11_glassFact, cX11_glassFact, (some .int), 2)),
  ((xt_134, 11, 4, 1, false), (yX11_noughtsAtDeeds, cX11_noughtsAtDeeds, (some .int), 1)),
  ((xt_135, 11, 5, 1, false), (yX11_doStep, cX11_doStep, (some .int), 2)),
  ((xt_136, 11, 4, 1, false), (yX11_glassesOf, cX11_glassesOf, (some .int), 1)),
  ((xt_137, 11, 3, 1, false), (yX11_keptOnes, cX11_keptOnes, (some .int), 0)),
  ((xt_138, 11, 3, 1, false), (yX11_howManyThere, cX11_howManyThere, (some .int), 1)),
  ((xt_139, 11, 7, 3, false), (yX11_digestOf, cX11_digestOf, (some .long), 2)),
  ((xt_140, 11, 7, 2, false), (yX11_findSets, cX11_findSets, (some .boolean), 2)),
  ((xt_141, 11, 2, 1, false), (yX11_leastOf, cX11_leastOf, (some .int), 1)),
  ((xt_142, 11, 5, 1, false), (yX11_firstNotShown, cX11_firstNotShown, (some .int), 3)),
  ((xt_143, 11, 5, 1, false), (yX11_lawsOf, cX11_lawsOf, (some .int), 2))]
def xMX_9 : List xME := [((xt_144, 11, 6, 1, false), (yX11_mostThatShowOneThing, cX11_mostThatShowOneThing, (some .int), 2)),
  ((xt_145, 11, 4, 1, false), (yX11_leastPick, cX11_leastPick, (some .int), 2)),
  ((xt_146, 11, 3, 2, false), (yX11_isSafeBeforeAll, cX11_isSafeBeforeAll, (some .boolean), 1)),
  ((xt_147, 11, 8, 1, false), (yX11_breakingOfTwelve, cX11_breakingOfTwelve, (some .int), 4)),
  ((xt_148, 11, 7, 0, false), (yX11_tell, cX11_tell, none, 2)),
  ((xt_149, 11, 11, 3, false), (yX11_commonDivisor, cX11_commonDivisor, (some .long), 2)),
  ((xt_150, 12, 2, 0, true), (yX12_init, cX12_init, none, 0)),
  ((xt_151, 12, 3, 2, false), (yX12_in, cX12_in, (some .boolean), 3)),
  ((xt_152, 12, 2, 2, false), (yX12_has, cX12_has, (some .boolean), 2)),
  ((xt_153, 12, 2, 1, false), (yX12_finds, cX12_finds, (some .int), 1)),
  ((xt_154, 12, 2, 1, false), (yX12_tells, cX12_tells, (some .int), 1)),
  ((xt_155, 12, 11, 0, false), (yX12_tellParts, cX12_tellParts, none, 2)),
  ((xt_156, 12, 1, 2, false), (yX12_isRow, cX12_isRow, (some .boolean), 1)),
  ((xt_157, 12, 1, 2, false), (yX12_isText, cX12_isText, (some .boolean), 1)),
  ((xt_158, 12, 4, 1, false), (yX12_row, cX12_row, (some .int), 2)),
  ((xt_159, 12, 3, 1, false), (yX12_wrongAt, cX12_wrongAt, (some .int), 2))]
def xMX_10 : List xME := [((xt_160, 12, 6, 1, false), (yX12_lay, cX12_lay, (some .int), 3)),
  ((xt_161, 12, 4, 1, false), (yX12_at, cX12_at, (some .int), 2)),
  ((xt_162, 12, 2, 1, false), (yX12_tear, cX12_tear, (some .int), 1)),
  ((xt_163, 12, 3, 2, false), (yX12_isPart, cX12_isPart, (some .boolean), 3)),
  ((xt_164, 12, 9, 1, false), (yX12_copy, cX12_copy, (some .int), 5)),
  ((xt_165, 12, 5, 1, false), (yX12_mean, cX12_mean, (some .int), 1)),
  ((xt_166, 12, 4, 1, false), (yX12_text, cX12_text, (some .int), 2)),
  ((xt_167, 12, 5, 1, false), (yX12_put, cX12_put, (some .int), 3)),
  ((xt_168, 12, 1, 1, false), (yX12_letter, cX12_letter, (some .int), 0)),
  ((xt_169, 12, 1, 0, false), (yX12_skip, cX12_skip, none, 0)),
  ((xt_170, 12, 3, 1, false), (yX12_figure, cX12_figure, (some .int), 1)),
  ((xt_171, 12, 1, 1, false), (yX12_kindBy, cX12_kindBy, (some .int), 1)),
  ((xt_172, 12, 3, 2, false), (yX12_areHabits, cX12_areHabits, (some .boolean), 0)),
  ((xt_173, 12, 3, 2, false), (yX12_isGlassItem, cX12_isGlassItem, (some .boolean), 0)),
  ((xt_174, 12, 3, 2, false), (yX12_isTermItem, cX12_isTermItem, (some .boolean), 0)),
  ((xt_175, 12, 4, 2, false), (yX12_isRoom, cX12_isRoom, (some .boolean), 1))]
def xMX_11 : List xME := [((xt_176, 12, 2, 1, false), (yX12_fault, cX12_fault, (some .int), 1)),
  ((xt_177, 12, 3, 1, false), (yX12_room, cX12_room, (some .int), 1)),
  ((xt_178, 12, 2, 2, false), (yX12_isGlass, cX12_isGlass, (some .boolean), 1)),
  ((xt_179, 12, 1, 2, false), (yX12_isStep, cX12_isStep, (some .boolean), 1)),
  ((xt_180, 12, 1, 1, false), (yX12_mirrored, cX12_mirrored, (some .int), 1)),
  ((xt_181, 12, 9, 1, false), (yX12_showsBy, cX12_showsBy, (some .int), 4)),
  ((xt_182, 12, 4, 1, false), (yX12_showsOf, cX12_showsOf, (some .int), 3)),
  ((xt_183, 12, 4, 1, false), (yX12_termBy, cX12_termBy, (some .int), 2)),
  ((xt_184, 12, 2, 1, false), (yX12_shownOf, cX12_shownOf, (some .int), 1)),
  ((xt_185, 12, 2, 1, false), (yX12_brokenBy, cX12_brokenBy, (some .int), 1)),
  ((xt_186, 12, 2, 2, false), (yX12_isOf, cX12_isOf, (some .boolean), 2)),
  ((xt_187, 12, 5, 1, false), (yX12_glass, cX12_glass, (some .int), 2)),
  ((xt_188, 12, 5, 1, false), (yX12_mark, cX12_mark, (some .int), 2)),
  ((xt_189, 12, 2, 1, false), (yX12_habit, cX12_habit, (some .int), 1)),
  ((xt_190, 12, 3, 1, false), (yX12_term, cX12_term, (some .int), 2)),
  ((xt_191, 12, 3, 1, false), (yX12_doStep, cX12_doStep, (some .int), 2))]
def xMX_12 : List xME := [((xt_192, 12, 3, 1, false), (yX12_step, cX12_step, (some .int), 2)),
  ((xt_193, 12, 3, 1, false), (yX12_deed, cX12_deed, (some .int), 2)),
  ((xt_194, 12, 3, 1, false), (yX12_brokenMany, cX12_brokenMany, (some .int), 0)),
  ((xt_195, 12, 3, 1, false), (yX12_broken, cX12_broken, (some .int), 0)),
  ((xt_196, 12, 3, 1, false), (yX12_undo, cX12_undo, (some .int), 1)),
  ((xt_197, 12, 3, 1, false), (yX12_keep, cX12_keep, (some .int), 1)),
  ((xt_198, 12, 3, 1, false), (yX12_on, cX12_on, (some .int), 1)),
  ((xt_199, 12, 6, 1, false), (yX12_takeOut, cX12_takeOut, (some .int), 3)),
  ((xt_200, 12, 4, 1, false), (yX12_takeTwo, cX12_takeTwo, (some .int), 2)),
  ((xt_201, 12, 5, 1, false), (yX12_layRow, cX12_layRow, (some .int), 3)),
  ((xt_202, 12, 7, 1, false), (yX12_show, cX12_show, (some .int), 3)),
  ((xt_203, 12, 3, 2, false), (yX12_breaksAt, cX12_breaksAt, (some .boolean), 2)),
  ((xt_204, 12, 8, 1, false), (yX12_breaks, cX12_breaks, (some .int), 2)),
  ((xt_205, 12, 6, 1, false), (yX12_alike, cX12_alike, (some .int), 2)),
  ((xt_206, 12, 7, 1, false), (yX12_fit, cX12_fit, (some .int), 2)),
  ((xt_207, 12, 3, 1, false), (yX12_rowsOf, cX12_rowsOf, (some .int), 1))]
def xMX_13 : List xME := [((xt_208, 12, 5, 0, false), (yX12_layDoings, cX12_layDoings, none, 2)),
  ((xt_209, 12, 5, 2, false), (yX12_shows, cX12_shows, (some .boolean), 2)),
  ((xt_210, 12, 7, 1, false), (yX12_ways, cX12_ways, (some .int), 2)),
  ((xt_211, 12, 7, 1, false), (yX12_first, cX12_first, (some .int), 3)),
  ((xt_212, 12, 8, 1, false), (yX12_can, cX12_can, (some .int), 3)),
  ((xt_213, 12, 6, 1, false), (yX12_lawsOf, cX12_lawsOf, (some .int), 1)),
  ((xt_214, 12, 4, 1, false), (yX12_laws, cX12_laws, (some .int), 2)),
  ((xt_215, 12, 3, 1, false), (yX12_bits, cX12_bits, (some .int), 1)),
  ((xt_216, 12, 13, 1, false), (yX12_next, cX12_next, (some .int), 2)),
  ((xt_217, 12, 9, 1, false), (yX12_he, cX12_he, (some .int), 3)),
  ((xt_218, 12, 5, 2, false), (yX12_breaksNone, cX12_breaksNone, (some .boolean), 2)),
  ((xt_219, 12, 6, 1, false), (yX12_keeps, cX12_keeps, (some .int), 2)),
  ((xt_220, 12, 7, 1, false), (yX12_still, cX12_still, (some .int), 2)),
  ((xt_221, 12, 4, 2, false), (yX12_isSafe, cX12_isSafe, (some .boolean), 1)),
  ((xt_222, 12, 5, 1, false), (yX12_gameBy, cX12_gameBy, (some .int), 1)),
  ((xt_223, 12, 2, 1, false), (yX12_game, cX12_game, (some .int), 1))]
def xMX_14 : List xME := [((xt_224, 12, 2, 1, false), (yX12_picks, cX12_picks, (some .int), 1)),
  ((xt_225, 12, 10, 1, false), (yX12_odds, cX12_odds, (some .int), 3)),
  ((xt_226, 12, 8, 1, false), (yX12_mid, cX12_mid, (some .int), 3)),
  ((xt_227, 12, 7, 1, false), (yX12_lots, cX12_lots, (some .int), 2)),
  ((xt_228, 12, 1, 1, false), (yX12_asked, cX12_asked, (some .int), 0)),
  ((xt_229, 12, 1, 3, false), (yX12_upper, cX12_upper, (some .long), 0)),
  ((xt_230, 12, 1, 3, false), (yX12_lower, cX12_lower, (some .long), 0)),
  ((xt_231, 12, 4, 1, false), (yX12_kindsOf, cX12_kindsOf, (some .int), 1)),
  ((xt_232, 12, 4, 1, false), (yX12_thereOf, cX12_thereOf, (some .int), 2)),
  ((xt_233, 12, 2, 1, false), (yX12_countOf, cX12_countOf, (some .int), 1)),
  ((xt_234, 12, 2, 1, false), (yX12_count, cX12_count, (some .int), 1)),
  ((xt_235, 12, 1, 1, false), (yX12_finding, cX12_finding, (some .int), 0)),
  ((xt_236, 12, 2, 1, false), (yX12_findings, cX12_findings, (some .int), 1)),
  ((xt_237, 12, 2, 0, false), (yX12_add, cX12_add, none, 1)),
  ((xt_238, 12, 5, 3, false), (yX12_digest, cX12_digest, (some .long), 0)),
  ((xt_239, 14, 1, 1, false), (yJ6_bitCount_0f7a4, cJ6_bitCount_0f7a4, (some .int), 1))]
def xMX : List (List xME) := [xMX_0, xMX_1, xMX_2, xMX_3, xMX_4, xMX_5, xMX_6, xMX_7, xMX_8, xMX_9, xMX_10, xMX_11, xMX_12, xMX_13, xMX_14]
def xm (k : Nat) : Option xME := match xMX[k / 16]? with
  | some r => r[k % 16]?
  | none => none
def xnw : List Cond := [Cond.methodLinkNest RX0 3 yX3_init "LimpMirror", Cond.methodLinkNest RX2 3 yX3_init "LimpMirror", Cond.methodLinkNest RX8 28 yX11_isStep "LimpMirror", Cond.declares ⟨"LimpMirror$Doings", "stepAt", "(I)I"⟩, Cond.methodLinkNest RX11 26 yX2_init "LimpMirror", Cond.methodLinkNest RX11 37 yX8_init "LimpMirror", Cond.methodLinkNest RX11 61 yX1_init "LimpMirror", Cond.fieldLinkNest RX8 86 RX11 "KIND_LETTERS" "[I" "LimpMirror", Cond.castable RX4 RX7, Cond.castable RX5 RX7, Cond.castable RX6 RX7, Cond.castable RX9 RX7, Cond.castable RX10 RX7]
theorem xnw_0 : Cond.methodLinkNest RX0 3 yX3_init "LimpMirror" ∈ xnw := List.Mem.head _
theorem xnt_0 : Cond.methodLinkNest RX0 3 yX3_init "LimpMirror" ∈ lw_tbl := xw_in (q := 1073) rfl
theorem xnw_1 : Cond.methodLinkNest RX2 3 yX3_init "LimpMirror" ∈ xnw := List.Mem.tail _ (List.Mem.head _)
theorem xnt_1 : Cond.methodLinkNest RX2 3 yX3_init "LimpMirror" ∈ lw_tbl := xw_in (q := 1034) rfl
theorem xnw_2 : Cond.methodLinkNest RX8 28 yX11_isStep "LimpMirror" ∈ xnw := List.Mem.tail _ (List.Mem.tail _ (List.Mem.head _))
theorem xnt_2 : Cond.methodLinkNest RX8 28 yX11_isStep "LimpMirror" ∈ lw_tbl := xw_in (q := 3019) rfl
theorem xnw_3 : Cond.declares ⟨"LimpMirror$Doings", "stepAt", "(I)I"⟩ ∈ xnw := List.Mem.tail _ (List.Mem.tail _ (List.Mem.tail _ (List.Mem.head _)))
theorem xnt_3 : Cond.declares ⟨"LimpMirror$Doings", "stepAt", "(I)I"⟩ ∈ lw_tbl := xw_in (q := 2226) rfl
theorem xnw_4 : Cond.methodLinkNest RX11 26 yX2_init "LimpMirror" ∈ xnw := List.Mem.tail _ (List.Mem.tail _ (List.Mem.tail _ (List.Mem.tail _ (List.Mem.head _))))
theorem xnt_4 : Cond.methodLinkNest RX11 26 yX2_init "LimpMirror" ∈ lw_tbl := xw_in (q := 1031) rfl
theorem xnw_5 : Cond.methodLinkNest RX11 37 yX8_init "LimpMirror" ∈ xnw := List.Mem.tail _ (List.Mem.tail _ (List.Mem.tail _ (List.Mem.tail _ (List.Mem.tail _ (List.Mem.head _)))))
theorem xnt_5 : Cond.methodLinkNest RX11 37 yX8_init "LimpMirror" ∈ lw_tbl := xw_in (q := 1049) rfl
theorem xnw_6 : Cond.methodLinkNest RX11 61 yX1_init "LimpMirror" ∈ xnw := List.Mem.tail _ (List.Mem.tail _ (List.Mem.tail _ (List.Mem.tail _ (List.Mem.tail _ (List.Mem.tail _ (List.Mem.head _))))))
theorem xnt_6 : Cond.methodLinkNest RX11 61 yX1_init "LimpMirror" ∈ lw_tbl := xw_in (q := 1086) rfl
theorem xnw_7 : Cond.fieldLinkNest RX8 86 RX11 "KIND_LETTERS" "[I" "LimpMirror" ∈ xnw := List.Mem.tail _ (List.Mem.tail _ (List.Mem.tail _ (List.Mem.tail _ (List.Mem.tail _ (List.Mem.tail _ (List.Mem.tail _ (List.Mem.head _)))))))
theorem xnt_7 : Cond.fieldLinkNest RX8 86 RX11 "KIND_LETTERS" "[I" "LimpMirror" ∈ lw_tbl := xw_in (q := 2100) rfl
theorem xnw_8 : Cond.castable RX4 RX7 ∈ xnw := List.Mem.tail _ (List.Mem.tail _ (List.Mem.tail _ (List.Mem.tail _ (List.Mem.tail _ (List.Mem.tail _ (List.Mem.tail _ (List.Mem.tail _ (List.Mem.head _))))))))
theorem xnt_8 : Cond.castable RX4 RX7 ∈ lw_tbl := xw_in (q := 6071) rfl
theorem xnw_9 : Cond.castable RX5 RX7 ∈ xnw := List.Mem.tail _ (List.Mem.tail _ (List.Mem.tail _ (List.Mem.tail _ (List.Mem.tail _ (List.Mem.tail _ (List.Mem.tail _ (List.Mem.tail _ (List.Mem.tail _ (List.Mem.head _)))))))))
theorem xnt_9 : Cond.castable RX5 RX7 ∈ lw_tbl := xw_in (q := 6067) rfl
theorem xnw_10 : Cond.castable RX6 RX7 ∈ xnw := List.Mem.tail _ (List.Mem.tail _ (List.Mem.tail _ (List.Mem.tail _ (List.Mem.tail _ (List.Mem.tail _ (List.Mem.tail _ (List.Mem.tail _ (List.Mem.tail _ (List.Mem.tail _ (List.Mem.head _))))))))))
theorem xnt_10 : Cond.castable RX6 RX7 ∈ lw_tbl := xw_in (q := 6070) rfl
theorem xnw_11 : Cond.castable RX9 RX7 ∈ xnw := List.Mem.tail _ (List.Mem.tail _ (List.Mem.tail _ (List.Mem.tail _ (List.Mem.tail _ (List.Mem.tail _ (List.Mem.tail _ (List.Mem.tail _ (List.Mem.tail _ (List.Mem.tail _ (List.Mem.tail _ (List.Mem.head _)))))))))))
theorem xnt_11 : Cond.castable RX9 RX7 ∈ lw_tbl := xw_in (q := 6068) rfl
theorem xnw_12 : Cond.castable RX10 RX7 ∈ xnw := List.Mem.tail _ (List.Mem.tail _ (List.Mem.tail _ (List.Mem.tail _ (List.Mem.tail _ (List.Mem.tail _ (List.Mem.tail _ (List.Mem.tail _ (List.Mem.tail _ (List.Mem.tail _ (List.Mem.tail _ (List.Mem.tail _ (List.Mem.head _))))))))))))
theorem xnt_12 : Cond.castable RX10 RX7 ∈ lw_tbl := xw_in (q := 6069) rfl
theorem xnw_K : Cond.fieldLinkNest RX8 86 RX11 "KIND_LETTERS" "[I" "LimpMirror" ∈ xnw := xnw_7
theorem xnw_cRX4 : Cond.castable RX4 RX7 ∈ xnw := xnw_8
theorem xnw_cRX5 : Cond.castable RX5 RX7 ∈ xnw := xnw_9
theorem xnw_cRX6 : Cond.castable RX6 RX7 ∈ xnw := xnw_10
theorem xnw_cRX9 : Cond.castable RX9 RX7 ∈ xnw := xnw_11
theorem xnw_cRX10 : Cond.castable RX10 RX7 ∈ xnw := xnw_12
theorem xnw_in : ∀ w ∈ xnw, w ∈ lw_tbl := List.forall_mem_cons.mpr ⟨xnt_0, List.forall_mem_cons.mpr ⟨xnt_1, List.forall_mem_cons.mpr ⟨xnt_2, List.forall_mem_cons.mpr ⟨xnt_3, List.forall_mem_cons.mpr ⟨xnt_4, List.forall_mem_cons.mpr ⟨xnt_5, List.forall_mem_cons.mpr ⟨xnt_6, List.forall_mem_cons.mpr ⟨xnt_7, List.forall_mem_cons.mpr ⟨xnt_8, List.forall_mem_cons.mpr ⟨xnt_9, List.forall_mem_cons.mpr ⟨xnt_10, List.forall_mem_cons.mpr ⟨xnt_11, List.forall_mem_cons.mpr ⟨xnt_12, fun _ h => absurd h List.not_mem_nil⟩⟩⟩⟩⟩⟩⟩⟩⟩⟩⟩⟩⟩
theorem xao_Cells : Cond.arrayOver (.object "LimpMirror$Cells") ∈ lw_tbl := xw_in (q := 1026) rfl
theorem xao_Deeds : Cond.arrayOver (.object "LimpMirror$Deeds") ∈ lw_tbl := xw_in (q := 1046) rfl
theorem xao_Pane : Cond.arrayOver (.object "LimpMirror$Pane") ∈ lw_tbl := xw_in (q := 1028) rfl
theorem xls : Cond.laysStatic RX11 "KIND_LETTERS" "[I" ∈ lw_tbl := xw_in (q := 2101) rfl
theorem xai : Cond.arrayClass .int ∈ xWS := xw_mem (q := 1045) rfl rfl
def xe_tag (t : FieldType) : Nat := match t with
  | .int => 0
  | .long => 1
  | .object _ => 2
  | .array _ => 2
  | _ => 3
def xe_rt (t : Option FieldType) : Nat := match t with
  | none => 0
  | some .int => 1
  | some .boolean => 2
  | some .long => 3
  | some (.object _) => 4
  | some (.array _) => 4
  | _ => 9
end
section
set_option maxRecDepth 100000 in
theorem xt_ok_0 : xe_ok cX0_init xt_0 = true := by decide +kernel
set_option maxRecDepth 100000 in
theorem xt_ok_1 : xe_ok cX0_isMissing xt_1 = true := by decide +kernel
set_option maxRecDepth 100000 in
theorem xt_ok_2 : xe_ok cX0_size xt_2 = true := by decide +kernel
set_option maxRecDepth 100000 in
theorem xt_ok_3 : xe_ok cX0_has xt_3 = true := by decide +kernel
set_option maxRecDepth 100000 in
theorem xt_ok_4 : xe_ok cX0_hasPlaces xt_4 = true := by decide +kernel
set_option maxRecDepth 100000 in
theorem xt_ok_5 : xe_ok cX0_get xt_5 = true := by decide +kernel
set_option maxRecDepth 100000 in
theorem xt_ok_6 : xe_ok cX0_set xt_6 = true := by decide +kernel
set_option maxRecDepth 100000 in
theorem xt_ok_7 : xe_ok cX0_open xt_7 = true := by decide +kernel
set_option maxRecDepth 100000 in
theorem xt_ok_8 : xe_ok cX0_drop xt_8 = true := by decide +kernel
set_option maxRecDepth 100000 in
theorem xt_ok_9 : xe_ok cX0_take xt_9 = true := by decide +kernel
set_option maxRecDepth 100000 in
theorem xt_ok_10 : xe_ok cX0_takeAll xt_10 = true := by decide +kernel
set_option maxRecDepth 100000 in
theorem xt_ok_11 : xe_ok cX0_stepAt xt_11 = true := by decide +kernel
set_option maxRecDepth 100000 in
theorem xt_ok_12 : xe_ok cX1_init xt_12 = true := by decide +kernel
set_option maxRecDepth 100000 in
theorem xt_ok_13 : xe_ok cX1_rows xt_13 = true := by decide +kernel
set_option maxRecDepth 100000 in
theorem xt_ok_14 : xe_ok cX1_fewestStill xt_14 = true := by decide +kernel
set_option maxRecDepth 100000 in
theorem xt_ok_15 : xe_ok cX1_firstSteps xt_15 = true := by decide +kernel
set_option maxRecDepth 100000 in
theorem xt_ok_16 : xe_ok cX1_weigh xt_16 = true := by decide +kernel
set_option maxRecDepth 100000 in
theorem xt_ok_17 : xe_ok cX1_isHead xt_17 = true := by decide +kernel
set_option maxRecDepth 100000 in
theorem xt_ok_18 : xe_ok cX1_heirOf xt_18 = true := by decide +kernel
set_option maxRecDepth 100000 in
theorem xt_ok_19 : xe_ok cX1_weighStep xt_19 = true := by decide +kernel
set_option maxRecDepth 100000 in
theorem xt_ok_20 : xe_ok cX1_shownAtHead xt_20 = true := by decide +kernel
set_option maxRecDepth 100000 in
theorem xt_ok_21 : xe_ok cX1_addChain xt_21 = true := by decide +kernel
set_option maxRecDepth 100000 in
theorem xt_ok_22 : xe_ok cX2_init xt_22 = true := by decide +kernel
set_option maxRecDepth 100000 in
theorem xt_ok_23 : xe_ok cX2_size xt_23 = true := by decide +kernel
set_option maxRecDepth 100000 in
theorem xt_ok_24 : xe_ok cX2_isMissing xt_24 = true := by decide +kernel
set_option maxRecDepth 100000 in
theorem xt_ok_25 : xe_ok cX2_drop xt_25 = true := by decide +kernel
set_option maxRecDepth 100000 in
theorem xt_ok_26 : xe_ok cX2_fact xt_26 = true := by decide +kernel
set_option maxRecDepth 100000 in
theorem xt_ok_27 : xe_ok cX2_write xt_27 = true := by decide +kernel
set_option maxRecDepth 100000 in
theorem xt_ok_28 : xe_ok cX2_add xt_28 = true := by decide +kernel
set_option maxRecDepth 100000 in
theorem xt_ok_29 : xe_ok cX2_see xt_29 = true := by decide +kernel
set_option maxRecDepth 100000 in
theorem xt_ok_30 : xe_ok cX2_cutTo xt_30 = true := by decide +kernel
set_option maxRecDepth 100000 in
theorem xt_ok_31 : xe_ok cX2_takeAll xt_31 = true := by decide +kernel
set_option maxRecDepth 100000 in
theorem xt_ok_32 : xe_ok cX2_howManyBefore xt_32 = true := by decide +kernel
set_option maxRecDepth 100000 in
theorem xt_ok_33 : xe_ok cX2_howManyBrokeBefore xt_33 = true := by decide +kernel
set_option maxRecDepth 100000 in
theorem xt_ok_34 : xe_ok cX2_howManyBroke xt_34 = true := by decide +kernel
set_option maxRecDepth 100000 in
theorem xt_ok_35 : xe_ok cX2_firstThatBroke xt_35 = true := by decide +kernel
set_option maxRecDepth 100000 in
theorem xt_ok_36 : xe_ok cX2_stepAt xt_36 = true := by decide +kernel
set_option maxRecDepth 100000 in
theorem xt_ok_37 : xe_ok cX3_init xt_37 = true := by decide +kernel
set_option maxRecDepth 100000 in
theorem xt_ok_38 : xe_ok cX4_init xt_38 = true := by decide +kernel
set_option maxRecDepth 100000 in
theorem xt_ok_39 : xe_ok cX4_source xt_39 = true := by decide +kernel
set_option maxRecDepth 100000 in
theorem xt_ok_40 : xe_ok cX4_thinks xt_40 = true := by decide +kernel
set_option maxRecDepth 100000 in
theorem xt_ok_41 : xe_ok cX5_init xt_41 = true := by decide +kernel
set_option maxRecDepth 100000 in
theorem xt_ok_42 : xe_ok cX5_source xt_42 = true := by decide +kernel
set_option maxRecDepth 100000 in
theorem xt_ok_43 : xe_ok cX5_isOf xt_43 = true := by decide +kernel
set_option maxRecDepth 100000 in
theorem xt_ok_44 : xe_ok cX6_init xt_44 = true := by decide +kernel
set_option maxRecDepth 100000 in
theorem xt_ok_45 : xe_ok cX6_source xt_45 = true := by decide +kernel
set_option maxRecDepth 100000 in
theorem xt_ok_46 : xe_ok cX6_placesToLimp xt_46 = true := by decide +kernel
set_option maxRecDepth 100000 in
theorem xt_ok_47 : xe_ok cX7_init xt_47 = true := by decide +kernel
set_option maxRecDepth 100000 in
theorem xt_ok_48 : xe_ok cX7_kind xt_48 = true := by decide +kernel
set_option maxRecDepth 100000 in
theorem xt_ok_49 : xe_ok cX7_delay xt_49 = true := by decide +kernel
set_option maxRecDepth 100000 in
theorem xt_ok_50 : xe_ok cX7_isOf xt_50 = true := by decide +kernel
set_option maxRecDepth 100000 in
theorem xt_ok_51 : xe_ok cX7_source xt_51 = true := by decide +kernel
set_option maxRecDepth 100000 in
theorem xt_ok_52 : xe_ok cX7_thinks xt_52 = true := by decide +kernel
set_option maxRecDepth 100000 in
theorem xt_ok_53 : xe_ok cX7_isOdd xt_53 = true := by decide +kernel
set_option maxRecDepth 100000 in
theorem xt_ok_54 : xe_ok cX8_init xt_54 = true := by decide +kernel
set_option maxRecDepth 100000 in
theorem xt_ok_55 : xe_ok cX8_glasses xt_55 = true := by decide +kernel
set_option maxRecDepth 100000 in
theorem xt_ok_56 : xe_ok cX8_terms xt_56 = true := by decide +kernel
set_option maxRecDepth 100000 in
theorem xt_ok_57 : xe_ok cX8_lawOf xt_57 = true := by decide +kernel
set_option maxRecDepth 100000 in
theorem xt_ok_58 : xe_ok cX8_termStep xt_58 = true := by decide +kernel
set_option maxRecDepth 100000 in
theorem xt_ok_59 : xe_ok cX8_thought xt_59 = true := by decide +kernel
set_option maxRecDepth 100000 in
theorem xt_ok_60 : xe_ok cX8_seen xt_60 = true := by decide +kernel
set_option maxRecDepth 100000 in
theorem xt_ok_61 : xe_ok cX8_shown xt_61 = true := by decide +kernel
set_option maxRecDepth 100000 in
theorem xt_ok_62 : xe_ok cX8_stepsSeenAs xt_62 = true := by decide +kernel
set_option maxRecDepth 100000 in
theorem xt_ok_63 : xe_ok cX8_firstBroken xt_63 = true := by decide +kernel
set_option maxRecDepth 100000 in
theorem xt_ok_64 : xe_ok cX8_isBroken xt_64 = true := by decide +kernel
set_option maxRecDepth 100000 in
theorem xt_ok_65 : xe_ok cX8_read xt_65 = true := by decide +kernel
set_option maxRecDepth 100000 in
theorem xt_ok_66 : xe_ok cX8_readItems xt_66 = true := by decide +kernel
set_option maxRecDepth 100000 in
theorem xt_ok_67 : xe_ok cX8_readGlass xt_67 = true := by decide +kernel
set_option maxRecDepth 100000 in
theorem xt_ok_68 : xe_ok cX8_readTerm xt_68 = true := by decide +kernel
set_option maxRecDepth 100000 in
theorem xt_ok_69 : xe_ok cX8_kindOf xt_69 = true := by decide +kernel
set_option maxRecDepth 100000 in
theorem xt_ok_70 : xe_ok cX8_afterBlanks xt_70 = true := by decide +kernel
set_option maxRecDepth 100000 in
theorem xt_ok_71 : xe_ok cX8_isFigure xt_71 = true := by decide +kernel
set_option maxRecDepth 100000 in
theorem xt_ok_72 : xe_ok cX9_init xt_72 = true := by decide +kernel
set_option maxRecDepth 100000 in
theorem xt_ok_73 : xe_ok cX9_source xt_73 = true := by decide +kernel
set_option maxRecDepth 100000 in
theorem xt_ok_74 : xe_ok cX9_isOf xt_74 = true := by decide +kernel
set_option maxRecDepth 100000 in
theorem xt_ok_75 : xe_ok cX10_init xt_75 = true := by decide +kernel
set_option maxRecDepth 100000 in
theorem xt_ok_76 : xe_ok cX10_thinks xt_76 = true := by decide +kernel
set_option maxRecDepth 100000 in
theorem xt_ok_77 : xe_ok cX11_init xt_77 = true := by decide +kernel
set_option maxRecDepth 100000 in
theorem xt_ok_78 : xe_ok cX11_row xt_78 = true := by decide +kernel
set_option maxRecDepth 100000 in
theorem xt_ok_79 : xe_ok cX11_lay xt_79 = true := by decide +kernel
set_option maxRecDepth 100000 in
theorem xt_ok_80 : xe_ok cX11_at xt_80 = true := by decide +kernel
set_option maxRecDepth 100000 in
theorem xt_ok_81 : xe_ok cX11_tear xt_81 = true := by decide +kernel
set_option maxRecDepth 100000 in
theorem xt_ok_82 : xe_ok cX11_copy xt_82 = true := by decide +kernel
set_option maxRecDepth 100000 in
theorem xt_ok_83 : xe_ok cX11_mean xt_83 = true := by decide +kernel
set_option maxRecDepth 100000 in
theorem xt_ok_84 : xe_ok cX11_text xt_84 = true := by decide +kernel
set_option maxRecDepth 100000 in
theorem xt_ok_85 : xe_ok cX11_put xt_85 = true := by decide +kernel
set_option maxRecDepth 100000 in
theorem xt_ok_86 : xe_ok cX11_fault xt_86 = true := by decide +kernel
set_option maxRecDepth 100000 in
theorem xt_ok_87 : xe_ok cX11_room xt_87 = true := by decide +kernel
set_option maxRecDepth 100000 in
theorem xt_ok_88 : xe_ok cX11_glass xt_88 = true := by decide +kernel
set_option maxRecDepth 100000 in
theorem xt_ok_89 : xe_ok cX11_mark xt_89 = true := by decide +kernel
set_option maxRecDepth 100000 in
theorem xt_ok_90 : xe_ok cX11_habit xt_90 = true := by decide +kernel
set_option maxRecDepth 100000 in
theorem xt_ok_91 : xe_ok cX11_term xt_91 = true := by decide +kernel
set_option maxRecDepth 100000 in
theorem xt_ok_92 : xe_ok cX11_step xt_92 = true := by decide +kernel
set_option maxRecDepth 100000 in
theorem xt_ok_93 : xe_ok cX11_deed xt_93 = true := by decide +kernel
set_option maxRecDepth 100000 in
theorem xt_ok_94 : xe_ok cX11_broken xt_94 = true := by decide +kernel
set_option maxRecDepth 100000 in
theorem xt_ok_95 : xe_ok cX11_undo xt_95 = true := by decide +kernel
set_option maxRecDepth 100000 in
theorem xt_ok_96 : xe_ok cX11_keep xt_96 = true := by decide +kernel
set_option maxRecDepth 100000 in
theorem xt_ok_97 : xe_ok cX11_on xt_97 = true := by decide +kernel
set_option maxRecDepth 100000 in
theorem xt_ok_98 : xe_ok cX11_show xt_98 = true := by decide +kernel
set_option maxRecDepth 100000 in
theorem xt_ok_99 : xe_ok cX11_breaks xt_99 = true := by decide +kernel
set_option maxRecDepth 100000 in
theorem xt_ok_100 : xe_ok cX11_alike xt_100 = true := by decide +kernel
set_option maxRecDepth 100000 in
theorem xt_ok_101 : xe_ok cX11_fit xt_101 = true := by decide +kernel
set_option maxRecDepth 100000 in
theorem xt_ok_102 : xe_ok cX11_ways xt_102 = true := by decide +kernel
set_option maxRecDepth 100000 in
theorem xt_ok_103 : xe_ok cX11_first xt_103 = true := by decide +kernel
set_option maxRecDepth 100000 in
theorem xt_ok_104 : xe_ok cX11_can xt_104 = true := by decide +kernel
set_option maxRecDepth 100000 in
theorem xt_ok_105 : xe_ok cX11_laws xt_105 = true := by decide +kernel
set_option maxRecDepth 100000 in
theorem xt_ok_106 : xe_ok cX11_next xt_106 = true := by decide +kernel
set_option maxRecDepth 100000 in
theorem xt_ok_107 : xe_ok cX11_he xt_107 = true := by decide +kernel
set_option maxRecDepth 100000 in
theorem xt_ok_108 : xe_ok cX11_keeps xt_108 = true := by decide +kernel
set_option maxRecDepth 100000 in
theorem xt_ok_109 : xe_ok cX11_still xt_109 = true := by decide +kernel
set_option maxRecDepth 100000 in
theorem xt_ok_110 : xe_ok cX11_game xt_110 = true := by decide +kernel
set_option maxRecDepth 100000 in
theorem xt_ok_111 : xe_ok cX11_picks xt_111 = true := by decide +kernel
set_option maxRecDepth 100000 in
theorem xt_ok_112 : xe_ok cX11_odds xt_112 = true := by decide +kernel
set_option maxRecDepth 100000 in
theorem xt_ok_113 : xe_ok cX11_mid xt_113 = true := by decide +kernel
set_option maxRecDepth 100000 in
theorem xt_ok_114 : xe_ok cX11_lots xt_114 = true := by decide +kernel
set_option maxRecDepth 100000 in
theorem xt_ok_115 : xe_ok cX11_asked xt_115 = true := by decide +kernel
set_option maxRecDepth 100000 in
theorem xt_ok_116 : xe_ok cX11_upper xt_116 = true := by decide +kernel
set_option maxRecDepth 100000 in
theorem xt_ok_117 : xe_ok cX11_lower xt_117 = true := by decide +kernel
set_option maxRecDepth 100000 in
theorem xt_ok_118 : xe_ok cX11_count xt_118 = true := by decide +kernel
set_option maxRecDepth 100000 in
theorem xt_ok_119 : xe_ok cX11_finding xt_119 = true := by decide +kernel
set_option maxRecDepth 100000 in
theorem xt_ok_120 : xe_ok cX11_findings xt_120 = true := by decide +kernel
set_option maxRecDepth 100000 in
theorem xt_ok_121 : xe_ok cX11_digest xt_121 = true := by decide +kernel
set_option maxRecDepth 100000 in
theorem xt_ok_122 : xe_ok cX11_refuse xt_122 = true := by decide +kernel
set_option maxRecDepth 100000 in
theorem xt_ok_123 : xe_ok cX11_isRow xt_123 = true := by decide +kernel
set_option maxRecDepth 100000 in
theorem xt_ok_124 : xe_ok cX11_isText xt_124 = true := by decide +kernel
set_option maxRecDepth 100000 in
theorem xt_ok_125 : xe_ok cX11_isKept xt_125 = true := by decide +kernel
set_option maxRecDepth 100000 in
theorem xt_ok_126 : xe_ok cX11_isStep xt_126 = true := by decide +kernel
set_option maxRecDepth 100000 in
theorem xt_ok_127 : xe_ok cX11_isGlass xt_127 = true := by decide +kernel
set_option maxRecDepth 100000 in
theorem xt_ok_128 : xe_ok cX11_findingOfPlace xt_128 = true := by decide +kernel
set_option maxRecDepth 100000 in
theorem xt_ok_129 : xe_ok cX11_findingOfSteps xt_129 = true := by decide +kernel
set_option maxRecDepth 100000 in
theorem xt_ok_130 : xe_ok cX11_findingOfPair xt_130 = true := by decide +kernel
set_option maxRecDepth 100000 in
theorem xt_ok_131 : xe_ok cX11_newPane xt_131 = true := by decide +kernel
set_option maxRecDepth 100000 in
theorem xt_ok_132 : xe_ok cX11_paneOf xt_132 = true := by decide +kernel
set_option maxRecDepth 100000 in
theorem xt_ok_133 : xe_ok cX11_glassFact xt_133 = true := by decide +kernel
set_option maxRecDepth 100000 in
theorem xt_ok_134 : xe_ok cX11_noughtsAtDeeds xt_134 = true := by decide +kernel
set_option maxRecDepth 100000 in
theorem xt_ok_135 : xe_ok cX11_doStep xt_135 = true := by decide +kernel
set_option maxRecDepth 100000 in
theorem xt_ok_136 : xe_ok cX11_glassesOf xt_136 = true := by decide +kernel
set_option maxRecDepth 100000 in
theorem xt_ok_137 : xe_ok cX11_keptOnes xt_137 = true := by decide +kernel
set_option maxRecDepth 100000 in
theorem xt_ok_138 : xe_ok cX11_howManyThere xt_138 = true := by decide +kernel
set_option maxRecDepth 100000 in
theorem xt_ok_139 : xe_ok cX11_digestOf xt_139 = true := by decide +kernel
set_option maxRecDepth 100000 in
theorem xt_ok_140 : xe_ok cX11_findSets xt_140 = true := by decide +kernel
set_option maxRecDepth 100000 in
theorem xt_ok_141 : xe_ok cX11_leastOf xt_141 = true := by decide +kernel
set_option maxRecDepth 100000 in
theorem xt_ok_142 : xe_ok cX11_firstNotShown xt_142 = true := by decide +kernel
set_option maxRecDepth 100000 in
theorem xt_ok_143 : xe_ok cX11_lawsOf xt_143 = true := by decide +kernel
set_option maxRecDepth 100000 in
theorem xt_ok_144 : xe_ok cX11_mostThatShowOneThing xt_144 = true := by decide +kernel
set_option maxRecDepth 100000 in
theorem xt_ok_145 : xe_ok cX11_leastPick xt_145 = true := by decide +kernel
set_option maxRecDepth 100000 in
theorem xt_ok_146 : xe_ok cX11_isSafeBeforeAll xt_146 = true := by decide +kernel
set_option maxRecDepth 100000 in
theorem xt_ok_147 : xe_ok cX11_breakingOfTwelve xt_147 = true := by decide +kernel
set_option maxRecDepth 100000 in
theorem xt_ok_148 : xe_ok cX11_tell xt_148 = true := by decide +kernel
set_option maxRecDepth 100000 in
theorem xt_ok_149 : xe_ok cX11_commonDivisor xt_149 = true := by decide +kernel
set_option maxRecDepth 100000 in
theorem xt_ok_150 : xe_ok cX12_init xt_150 = true := by decide +kernel
set_option maxRecDepth 100000 in
theorem xt_ok_151 : xe_ok cX12_in xt_151 = true := by decide +kernel
set_option maxRecDepth 100000 in
theorem xt_ok_152 : xe_ok cX12_has xt_152 = true := by decide +kernel
set_option maxRecDepth 100000 in
theorem xt_ok_153 : xe_ok cX12_finds xt_153 = true := by decide +kernel
set_option maxRecDepth 100000 in
theorem xt_ok_154 : xe_ok cX12_tells xt_154 = true := by decide +kernel
set_option maxRecDepth 100000 in
theorem xt_ok_155 : xe_ok cX12_tellParts xt_155 = true := by decide +kernel
set_option maxRecDepth 100000 in
theorem xt_ok_156 : xe_ok cX12_isRow xt_156 = true := by decide +kernel
set_option maxRecDepth 100000 in
theorem xt_ok_157 : xe_ok cX12_isText xt_157 = true := by decide +kernel
set_option maxRecDepth 100000 in
theorem xt_ok_158 : xe_ok cX12_row xt_158 = true := by decide +kernel
set_option maxRecDepth 100000 in
theorem xt_ok_159 : xe_ok cX12_wrongAt xt_159 = true := by decide +kernel
set_option maxRecDepth 100000 in
theorem xt_ok_160 : xe_ok cX12_lay xt_160 = true := by decide +kernel
set_option maxRecDepth 100000 in
theorem xt_ok_161 : xe_ok cX12_at xt_161 = true := by decide +kernel
set_option maxRecDepth 100000 in
theorem xt_ok_162 : xe_ok cX12_tear xt_162 = true := by decide +kernel
set_option maxRecDepth 100000 in
theorem xt_ok_163 : xe_ok cX12_isPart xt_163 = true := by decide +kernel
set_option maxRecDepth 100000 in
theorem xt_ok_164 : xe_ok cX12_copy xt_164 = true := by decide +kernel
set_option maxRecDepth 100000 in
theorem xt_ok_165 : xe_ok cX12_mean xt_165 = true := by decide +kernel
set_option maxRecDepth 100000 in
theorem xt_ok_166 : xe_ok cX12_text xt_166 = true := by decide +kernel
set_option maxRecDepth 100000 in
theorem xt_ok_167 : xe_ok cX12_put xt_167 = true := by decide +kernel
set_option maxRecDepth 100000 in
theorem xt_ok_168 : xe_ok cX12_letter xt_168 = true := by decide +kernel
set_option maxRecDepth 100000 in
theorem xt_ok_169 : xe_ok cX12_skip xt_169 = true := by decide +kernel
set_option maxRecDepth 100000 in
theorem xt_ok_170 : xe_ok cX12_figure xt_170 = true := by decide +kernel
set_option maxRecDepth 100000 in
theorem xt_ok_171 : xe_ok cX12_kindBy xt_171 = true := by decide +kernel
set_option maxRecDepth 100000 in
theorem xt_ok_172 : xe_ok cX12_areHabits xt_172 = true := by decide +kernel
set_option maxRecDepth 100000 in
theorem xt_ok_173 : xe_ok cX12_isGlassItem xt_173 = true := by decide +kernel
set_option maxRecDepth 100000 in
theorem xt_ok_174 : xe_ok cX12_isTermItem xt_174 = true := by decide +kernel
set_option maxRecDepth 100000 in
theorem xt_ok_175 : xe_ok cX12_isRoom xt_175 = true := by decide +kernel
set_option maxRecDepth 100000 in
theorem xt_ok_176 : xe_ok cX12_fault xt_176 = true := by decide +kernel
set_option maxRecDepth 100000 in
theorem xt_ok_177 : xe_ok cX12_room xt_177 = true := by decide +kernel
set_option maxRecDepth 100000 in
theorem xt_ok_178 : xe_ok cX12_isGlass xt_178 = true := by decide +kernel
set_option maxRecDepth 100000 in
theorem xt_ok_179 : xe_ok cX12_isStep xt_179 = true := by decide +kernel
set_option maxRecDepth 100000 in
theorem xt_ok_180 : xe_ok cX12_mirrored xt_180 = true := by decide +kernel
set_option maxRecDepth 100000 in
theorem xt_ok_181 : xe_ok cX12_showsBy xt_181 = true := by decide +kernel
set_option maxRecDepth 100000 in
theorem xt_ok_182 : xe_ok cX12_showsOf xt_182 = true := by decide +kernel
set_option maxRecDepth 100000 in
theorem xt_ok_183 : xe_ok cX12_termBy xt_183 = true := by decide +kernel
set_option maxRecDepth 100000 in
theorem xt_ok_184 : xe_ok cX12_shownOf xt_184 = true := by decide +kernel
set_option maxRecDepth 100000 in
theorem xt_ok_185 : xe_ok cX12_brokenBy xt_185 = true := by decide +kernel
set_option maxRecDepth 100000 in
theorem xt_ok_186 : xe_ok cX12_isOf xt_186 = true := by decide +kernel
set_option maxRecDepth 100000 in
theorem xt_ok_187 : xe_ok cX12_glass xt_187 = true := by decide +kernel
set_option maxRecDepth 100000 in
theorem xt_ok_188 : xe_ok cX12_mark xt_188 = true := by decide +kernel
set_option maxRecDepth 100000 in
theorem xt_ok_189 : xe_ok cX12_habit xt_189 = true := by decide +kernel
set_option maxRecDepth 100000 in
theorem xt_ok_190 : xe_ok cX12_term xt_190 = true := by decide +kernel
set_option maxRecDepth 100000 in
theorem xt_ok_191 : xe_ok cX12_doStep xt_191 = true := by decide +kernel
set_option maxRecDepth 100000 in
theorem xt_ok_192 : xe_ok cX12_step xt_192 = true := by decide +kernel
set_option maxRecDepth 100000 in
theorem xt_ok_193 : xe_ok cX12_deed xt_193 = true := by decide +kernel
set_option maxRecDepth 100000 in
theorem xt_ok_194 : xe_ok cX12_brokenMany xt_194 = true := by decide +kernel
set_option maxRecDepth 100000 in
theorem xt_ok_195 : xe_ok cX12_broken xt_195 = true := by decide +kernel
set_option maxRecDepth 100000 in
theorem xt_ok_196 : xe_ok cX12_undo xt_196 = true := by decide +kernel
set_option maxRecDepth 100000 in
theorem xt_ok_197 : xe_ok cX12_keep xt_197 = true := by decide +kernel
set_option maxRecDepth 100000 in
theorem xt_ok_198 : xe_ok cX12_on xt_198 = true := by decide +kernel
set_option maxRecDepth 100000 in
theorem xt_ok_199 : xe_ok cX12_takeOut xt_199 = true := by decide +kernel
set_option maxRecDepth 100000 in
theorem xt_ok_200 : xe_ok cX12_takeTwo xt_200 = true := by decide +kernel
set_option maxRecDepth 100000 in
theorem xt_ok_201 : xe_ok cX12_layRow xt_201 = true := by decide +kernel
set_option maxRecDepth 100000 in
theorem xt_ok_202 : xe_ok cX12_show xt_202 = true := by decide +kernel
set_option maxRecDepth 100000 in
theorem xt_ok_203 : xe_ok cX12_breaksAt xt_203 = true := by decide +kernel
set_option maxRecDepth 100000 in
theorem xt_ok_204 : xe_ok cX12_breaks xt_204 = true := by decide +kernel
set_option maxRecDepth 100000 in
theorem xt_ok_205 : xe_ok cX12_alike xt_205 = true := by decide +kernel
set_option maxRecDepth 100000 in
theorem xt_ok_206 : xe_ok cX12_fit xt_206 = true := by decide +kernel
set_option maxRecDepth 100000 in
theorem xt_ok_207 : xe_ok cX12_rowsOf xt_207 = true := by decide +kernel
set_option maxRecDepth 100000 in
theorem xt_ok_208 : xe_ok cX12_layDoings xt_208 = true := by decide +kernel
set_option maxRecDepth 100000 in
theorem xt_ok_209 : xe_ok cX12_shows xt_209 = true := by decide +kernel
set_option maxRecDepth 100000 in
theorem xt_ok_210 : xe_ok cX12_ways xt_210 = true := by decide +kernel
set_option maxRecDepth 100000 in
theorem xt_ok_211 : xe_ok cX12_first xt_211 = true := by decide +kernel
set_option maxRecDepth 100000 in
theorem xt_ok_212 : xe_ok cX12_can xt_212 = true := by decide +kernel
set_option maxRecDepth 100000 in
theorem xt_ok_213 : xe_ok cX12_lawsOf xt_213 = true := by decide +kernel
set_option maxRecDepth 100000 in
theorem xt_ok_214 : xe_ok cX12_laws xt_214 = true := by decide +kernel
set_option maxRecDepth 100000 in
theorem xt_ok_215 : xe_ok cX12_bits xt_215 = true := by decide +kernel
set_option maxRecDepth 100000 in
theorem xt_ok_216 : xe_ok cX12_next xt_216 = true := by decide +kernel
set_option maxRecDepth 100000 in
theorem xt_ok_217 : xe_ok cX12_he xt_217 = true := by decide +kernel
set_option maxRecDepth 100000 in
theorem xt_ok_218 : xe_ok cX12_breaksNone xt_218 = true := by decide +kernel
set_option maxRecDepth 100000 in
theorem xt_ok_219 : xe_ok cX12_keeps xt_219 = true := by decide +kernel
set_option maxRecDepth 100000 in
theorem xt_ok_220 : xe_ok cX12_still xt_220 = true := by decide +kernel
set_option maxRecDepth 100000 in
theorem xt_ok_221 : xe_ok cX12_isSafe xt_221 = true := by decide +kernel
set_option maxRecDepth 100000 in
theorem xt_ok_222 : xe_ok cX12_gameBy xt_222 = true := by decide +kernel
set_option maxRecDepth 100000 in
theorem xt_ok_223 : xe_ok cX12_game xt_223 = true := by decide +kernel
set_option maxRecDepth 100000 in
theorem xt_ok_224 : xe_ok cX12_picks xt_224 = true := by decide +kernel
set_option maxRecDepth 100000 in
theorem xt_ok_225 : xe_ok cX12_odds xt_225 = true := by decide +kernel
set_option maxRecDepth 100000 in
theorem xt_ok_226 : xe_ok cX12_mid xt_226 = true := by decide +kernel
set_option maxRecDepth 100000 in
theorem xt_ok_227 : xe_ok cX12_lots xt_227 = true := by decide +kernel
set_option maxRecDepth 100000 in
theorem xt_ok_228 : xe_ok cX12_asked xt_228 = true := by decide +kernel
set_option maxRecDepth 100000 in
theorem xt_ok_229 : xe_ok cX12_upper xt_229 = true := by decide +kernel
set_option maxRecDepth 100000 in
theorem xt_ok_230 : xe_ok cX12_lower xt_230 = true := by decide +kernel
set_option maxRecDepth 100000 in
theorem xt_ok_231 : xe_ok cX12_kindsOf xt_231 = true := by decide +kernel
set_option maxRecDepth 100000 in
theorem xt_ok_232 : xe_ok cX12_thereOf xt_232 = true := by decide +kernel
set_option maxRecDepth 100000 in
theorem xt_ok_233 : xe_ok cX12_countOf xt_233 = true := by decide +kernel
set_option maxRecDepth 100000 in
theorem xt_ok_234 : xe_ok cX12_count xt_234 = true := by decide +kernel
set_option maxRecDepth 100000 in
theorem xt_ok_235 : xe_ok cX12_finding xt_235 = true := by decide +kernel
set_option maxRecDepth 100000 in
theorem xt_ok_236 : xe_ok cX12_findings xt_236 = true := by decide +kernel
set_option maxRecDepth 100000 in
theorem xt_ok_237 : xe_ok cX12_add xt_237 = true := by decide +kernel
set_option maxRecDepth 100000 in
theorem xt_ok_238 : xe_ok cX12_digest xt_238 = true := by decide +kernel
set_option maxRecDepth 100000 in
theorem xt_ok_239 : xe_ok cJ6_bitCount_0f7a4 xt_239 = true := by decide +kernel
set_option maxRecDepth 100000 in
theorem xt_ok_L_0 : xe_ok cL_law xt_L_0 = true := by decide +kernel
set_option maxRecDepth 100000 in
theorem xt_ok_L_1 : xe_ok cL_law xt_L_1 = true := by decide +kernel
set_option maxRecDepth 100000 in
theorem xt_ok_L_2 : xe_ok cL_law xt_L_2 = true := by decide +kernel
set_option maxRecDepth 100000 in
theorem xt_ok_L_3 : xe_ok cL_law xt_L_3 = true := by decide +kernel
set_option maxRecDepth 100000 in
theorem xt_ok_L_4 : xe_ok cL_law xt_L_4 = true := by decide +kernel
set_option maxRecDepth 100000 in
theorem xt_ok_L_5 : xe_ok cL_law xt_L_5 = true := by decide +kernel
set_option maxRecDepth 100000 in
theorem xt_ok_L_6 : xe_ok cL_law xt_L_6 = true := by decide +kernel
set_option maxRecDepth 100000 in
theorem xt_ok_L_7 : xe_ok cL_law xt_L_7 = true := by decide +kernel
set_option maxRecDepth 100000 in
theorem xt_ok_L_8 : xe_ok cL_law xt_L_8 = true := by decide +kernel
set_option maxRecDepth 100000 in
theorem xt_ok_L_9 : xe_ok cL_law xt_L_9 = true := by decide +kernel
set_option maxRecDepth 100000 in
theorem xt_ok_L_10 : xe_ok cL_law xt_L_10 = true := by decide +kernel
set_option maxRecDepth 100000 in
theorem xt_ok_L_11 : xe_ok cL_law xt_L_11 = true := by decide +kernel
set_option maxRecDepth 100000 in
theorem xt_ok_L_12 : xe_ok cL_law xt_L_12 = true := by decide +kernel
set_option maxRecDepth 100000 in
theorem xt_ok_L_13 : xe_ok cL_law xt_L_13 = true := by decide +kernel
set_option maxRecDepth 100000 in
theorem xt_ok_L_14 : xe_ok cL_law xt_L_14 = true := by decide +kernel
set_option maxRecDepth 100000 in
theorem xt_ok_L_15 : xe_ok cL_law xt_L_15 = true := by decide +kernel
set_option maxRecDepth 100000 in
theorem xt_ok_L_16 : xe_ok cL_law xt_L_16 = true := by decide +kernel
theorem xe_ok_app {cc : ByteArray} {a b : xI} (ha : xe_ok cc a = true) (hb : xe_ok cc b = true) : xe_ok cc (a ++ b) = true := by
  unfold xe_ok at *
  rw [List.all_append, ha, hb]
  rfl
set_option maxRecDepth 100000 in
theorem xt_ok_L : xe_ok cL_law xt_L = true := xe_ok_app xt_ok_L_0 (xe_ok_app xt_ok_L_1 (xe_ok_app xt_ok_L_2 (xe_ok_app xt_ok_L_3 (xe_ok_app xt_ok_L_4 (xe_ok_app xt_ok_L_5 (xe_ok_app xt_ok_L_6 (xe_ok_app xt_ok_L_7 (xe_ok_app xt_ok_L_8 (xe_ok_app xt_ok_L_9 (xe_ok_app xt_ok_L_10 (xe_ok_app xt_ok_L_11 (xe_ok_app xt_ok_L_12 (xe_ok_app xt_ok_L_13 (xe_ok_app xt_ok_L_14 (xe_ok_app xt_ok_L_15 (xt_ok_L_16))))))))))))))))
end
section
/-! what the tables' rows say -/
def xf_G (oc : Nat) (e : xFE) : Prop := ∀ ci ∈ e.2.2.2.2, ∃ (C : String) (T : u_T) (N : Nat), vwCl[ci]? = some (C, T, N) ∧ e.2.1 < N ∧ Cond.fieldLink (RO oc) e.1 (T e.2.1).1 (T e.2.1).2.1 (T e.2.1).2.2.1 ∈ xWS ∧ (T e.2.1).2.2.2 = e.2.2.2.1 ∧ (parseFieldDescriptor (T e.2.1).2.2.1).map xe_tag = some e.2.2.1 ∧ (T e.2.1).1 = RO oc
def xm_G (q : xME) : Prop := xe_ok q.2.2.1 q.1.1 = true ∧ Cond.code q.2.1 q.2.2.1 q.1.2.2.1 q.2.2.2.1 ∈ xWS ∧ Cond.initialized q.2.1.cls ∈ xWS ∧ (plainName q.2.1.cls = true ∧ q.2.1.cls ≠ "java/lang/invoke/MethodHandle" ∧ q.2.1.cls ≠ "java/lang/invoke/VarHandle") ∧ q.2.1.cls = RO q.1.2.1 ∧ (q.1.2.2.2.2 = true → q.2.1.name = "<init>") ∧ xe_rt q.2.2.2.1 = q.1.2.2.2.1 ∧ q.1.2.2.1 ≤ 40 ∧ (parseMethodDescriptor q.2.1.desc).map (fun d => d.parameters.length) = some q.2.2.2.2
def xc_G (oc : Nat) (e : xCE) : Prop := match e.2.1 with
  | 0 => ∃ q, xm e.2.2.1 = some q ∧ Cond.methodLink (RO oc) e.1 q.2.1 ∈ xWS ∧ Cond.static q.2.1 ∈ xWS
  | 1 => ∃ q, xm e.2.2.1 = some q ∧ Cond.methodLink (RO oc) e.1 q.2.1 ∈ xWS ∧ Cond.instanceMethod q.2.1 ∈ xWS ∧ q.2.1.name = "<init>" ∧ q.2.2.2.1 = none
  | 2 => ∃ q, xm e.2.2.1 = some q ∧ Cond.methodLinkNest (RO oc) e.1 q.2.1 "LimpMirror" ∈ xnw ∧ Cond.instanceMethod q.2.1 ∈ xWS ∧ q.2.1.name = "<init>" ∧ q.2.2.2.1 = none
  | 3 => ∀ r ∈ e.2.2.2, ∃ (C : String) (T : u_T) (N : Nat) (q : xME), vwCl[r.1]? = some (C, T, N) ∧ xm r.2 = some q ∧ Cond.instanceMethod q.2.1 ∈ xWS ∧ Cond.initialized q.2.1.cls ∈ xWS ∧ ((Cond.methodLink (RO oc) e.1 q.2.1 ∈ xWS ∧ Cond.selects C q.2.1 q.2.1 ∈ xWS) ∨ ∃ (x : MethodName) (owner : String), Cond.methodLink (RO oc) e.1 x ∈ xWS ∧ Cond.sameMethod x.cls owner x.name x.desc ∈ xWS ∧ (owner ≠ "java/lang/invoke/MethodHandle" ∧ owner ≠ "java/lang/invoke/VarHandle") ∧ (parseMethodDescriptor x.desc).map (fun d => d.parameters.length) = some q.2.2.2.2 ∧ ((Cond.instanceMethod ⟨owner, x.name, x.desc⟩ ∈ xWS ∧ ∃ bb mm rr, Cond.code ⟨owner, x.name, x.desc⟩ bb mm rr ∈ xWS) ∨ Cond.declares ⟨owner, x.name, x.desc⟩ ∈ xnw) ∧ Cond.selects C x q.2.1 ∈ xWS)
  | 4 => Cond.methodLink (RO oc) e.1 objectInit ∈ xWS ∧ Cond.instanceMethod objectInit ∈ xWS ∧ Cond.code objectInit ⟨#[0xb1]⟩ 1 none ∈ xWS
  | 5 => Cond.methodLink (RO oc) e.1 Lib.Math.max.name ∈ xWS ∧ Cond.static Lib.Math.max.name ∈ xWS ∧ Cond.initialized "java/lang/Math" ∈ xWS ∧ Cond.code Lib.Math.max.name Lib.Math.max.code 2 (some .int) ∈ xWS
  | 6 => Cond.methodLink (RO oc) e.1 Lib.Math.min.name ∈ xWS ∧ Cond.static Lib.Math.min.name ∈ xWS ∧ Cond.initialized "java/lang/Math" ∈ xWS ∧ Cond.code Lib.Math.min.name Lib.Math.min.code 2 (some .int) ∈ xWS
  | 7 => ∃ q, xm e.2.2.1 = some q ∧ Cond.methodLinkNest (RO oc) e.1 q.2.1 "LimpMirror" ∈ xnw ∧ Cond.static q.2.1 ∈ xWS
  | 8 => Cond.methodLink (RO oc) e.1 arraycopyName ∈ xWS ∧ Cond.native arraycopyName ∈ xWS ∧ Cond.static arraycopyName ∈ xWS ∧ Cond.initialized "java/lang/System" ∈ xWS
  | 9 => ∃ q, xm e.2.2.1 = some q ∧ Cond.methodLink (RO oc) e.1 q.2.1 ∈ xWS ∧ Cond.sameMethod q.2.1.cls q.2.1.cls q.2.1.name q.2.1.desc ∈ xWS ∧ Cond.superclass (RO oc) q.2.1.cls ∈ xWS ∧ Cond.instanceMethod q.2.1 ∈ xWS ∧ q.2.1.name ≠ "<init>"
  | 10 => ∃ q, xm e.2.2.1 = some q ∧ ∃ x : MethodName, x.name = q.2.1.name ∧ x.desc = q.2.1.desc ∧ Cond.methodLink (RO oc) e.1 x ∈ xWS ∧ Cond.sameMethod x.cls q.2.1.cls x.name x.desc ∈ xWS ∧ Cond.static q.2.1 ∈ xWS
  | _ => False
def xn_G (oc : Nat) (e : Nat × Nat × List Value) : Prop := ∃ (C : String) (T : u_T) (N : Nat) (ty : Nat → FieldType), vwCl[e.2.1]? = some (C, T, N) ∧ Cond.classLink (RO oc) e.1 C ∈ xWS ∧ Cond.instantiable C N ∈ xWS ∧ Cond.initialized C ∈ xWS ∧ (∀ k, k < N → parseFieldDescriptor (T k).2.2.1 = some (ty k)) ∧ (∀ j, j < N → defaultValue (ty j) = vp_V e.2.2 j) ∧ e.2.2.length = N
def xAC : List String := [RX0, RX2, RX7]
def xa_G (oc : Nat) (e : Nat × Nat) : Prop := ∃ C, xAC[e.2]? = some C ∧ Cond.classLink (RO oc) e.1 C ∈ xWS
def xk_G (oc : Nat) (e : Nat × Value) : Prop := match e.2 with
  | .int v => Cond.constant (RO oc) e.1 v ∈ xWS
  | .long v => Cond.constantLong (RO oc) e.1 v ∈ xWS
  | _ => False
theorem xf_ok_0 : ∀ e ∈ xFL_0, xf_G 0 e := List.forall_mem_cons.mpr ⟨List.forall_mem_cons.mpr ⟨⟨RX0, TX0, 2, rfl, by decide, mw_23, rfl, by decide +kernel, rfl⟩, fun _ h => absurd h List.not_mem_nil⟩, List.forall_mem_cons.mpr ⟨List.forall_mem_cons.mpr ⟨⟨RX0, TX0, 2, rfl, by decide, mw_24, rfl, by decide +kernel, rfl⟩, fun _ h => absurd h List.not_mem_nil⟩, fun _ h => absurd h List.not_mem_nil⟩⟩
theorem xc_ok_0 : ∀ e ∈ xCL_0, xc_G 0 e := List.forall_mem_cons.mpr ⟨⟨_, rfl, xnw_0, mw_318, rfl, rfl⟩, List.forall_mem_cons.mpr ⟨⟨mw_319, mw_320, mw_321, mw_322⟩, List.forall_mem_cons.mpr ⟨List.forall_mem_cons.mpr ⟨⟨RX0, TX0, 2, _, rfl, rfl, mw_323, mw_65, Or.inl ⟨mw_324, mw_325⟩⟩, fun _ h => absurd h List.not_mem_nil⟩, List.forall_mem_cons.mpr ⟨⟨mw_326, mw_327, mw_321, mw_328⟩, List.forall_mem_cons.mpr ⟨List.forall_mem_cons.mpr ⟨⟨RX0, TX0, 2, _, rfl, rfl, mw_329, mw_65, Or.inl ⟨mw_330, mw_331⟩⟩, fun _ h => absurd h List.not_mem_nil⟩, List.forall_mem_cons.mpr ⟨⟨mw_332, mw_333, mw_334, mw_335⟩, List.forall_mem_cons.mpr ⟨List.forall_mem_cons.mpr ⟨⟨RX0, TX0, 2, _, rfl, rfl, mw_336, mw_65, Or.inl ⟨mw_337, mw_338⟩⟩, fun _ h => absurd h List.not_mem_nil⟩, List.forall_mem_cons.mpr ⟨List.forall_mem_cons.mpr ⟨⟨RX0, TX0, 2, _, rfl, rfl, mw_339, mw_65, Or.inl ⟨mw_340, mw_341⟩⟩, fun _ h => absurd h List.not_mem_nil⟩, List.forall_mem_cons.mpr ⟨List.forall_mem_cons.mpr ⟨⟨RX0, TX0, 2, _, rfl, rfl, mw_342, mw_65, Or.inl ⟨mw_343, mw_344⟩⟩, fun _ h => absurd h List.not_mem_nil⟩, fun _ h => absurd h List.not_mem_nil⟩⟩⟩⟩⟩⟩⟩⟩⟩
theorem xn_ok_0 : ∀ e ∈ xNL_0, xn_G 0 e := fun _ h => absurd h List.not_mem_nil
theorem xa_ok_0 : ∀ e ∈ xAL_0, xa_G 0 e := fun _ h => absurd h List.not_mem_nil
theorem xk_ok_0 : ∀ e ∈ xKL_0, xk_G 0 e := fun _ h => absurd h List.not_mem_nil
theorem xf_ok_1 : ∀ e ∈ xFL_1, xf_G 1 e := List.forall_mem_cons.mpr ⟨List.forall_mem_cons.mpr ⟨⟨RX1, TX1, 5, rfl, by decide, mw_25, rfl, by decide +kernel, rfl⟩, fun _ h => absurd h List.not_mem_nil⟩, List.forall_mem_cons.mpr ⟨List.forall_mem_cons.mpr ⟨⟨RX1, TX1, 5, rfl, by decide, mw_26, rfl, by decide +kernel, rfl⟩, fun _ h => absurd h List.not_mem_nil⟩, List.forall_mem_cons.mpr ⟨List.forall_mem_cons.mpr ⟨⟨RX1, TX1, 5, rfl, by decide, mw_27, rfl, by decide +kernel, rfl⟩, fun _ h => absurd h List.not_mem_nil⟩, List.forall_mem_cons.mpr ⟨List.forall_mem_cons.mpr ⟨⟨RX1, TX1, 5, rfl, by decide, mw_28, rfl, by decide +kernel, rfl⟩, fun _ h => absurd h List.not_mem_nil⟩, List.forall_mem_cons.mpr ⟨List.forall_mem_cons.mpr ⟨⟨RX1, TX1, 5, rfl, by decide, mw_29, rfl, by decide +kernel, rfl⟩, fun _ h => absurd h List.not_mem_nil⟩, fun _ h => absurd h List.not_mem_nil⟩⟩⟩⟩⟩
theorem xc_ok_1 : ∀ e ∈ xCL_1, xc_G 1 e := List.forall_mem_cons.mpr ⟨⟨mw_345, mw_346, mw_347⟩, List.forall_mem_cons.mpr ⟨⟨mw_348, mw_327, mw_321, mw_328⟩, List.forall_mem_cons.mpr ⟨⟨_, rfl, mw_349, mw_350⟩, List.forall_mem_cons.mpr ⟨List.forall_mem_cons.mpr ⟨⟨RX1, TX1, 5, _, rfl, rfl, mw_351, mw_78, Or.inl ⟨mw_352, mw_353⟩⟩, fun _ h => absurd h List.not_mem_nil⟩, List.forall_mem_cons.mpr ⟨⟨_, rfl, mw_354, mw_355⟩, List.forall_mem_cons.mpr ⟨List.forall_mem_cons.mpr ⟨⟨RX1, TX1, 5, _, rfl, rfl, mw_356, mw_78, Or.inl ⟨mw_357, mw_358⟩⟩, fun _ h => absurd h List.not_mem_nil⟩, List.forall_mem_cons.mpr ⟨List.forall_mem_cons.mpr ⟨⟨RX4, TX4, 2, _, rfl, rfl, mw_360, mw_107, Or.inr ⟨_, "LimpMirror$Pane", mw_361, mw_362, by decide +kernel, by decide +kernel, Or.inl ⟨mw_359, _, _, _, mw_123⟩, mw_363⟩⟩, List.forall_mem_cons.mpr ⟨⟨RX5, TX5, 2, _, rfl, rfl, mw_364, mw_111, Or.inr ⟨_, "LimpMirror$Pane", mw_361, mw_362, by decide +kernel, by decide +kernel, Or.inl ⟨mw_359, _, _, _, mw_123⟩, mw_365⟩⟩, List.forall_mem_cons.mpr ⟨⟨RX6, TX6, 2, _, rfl, rfl, mw_366, mw_115, Or.inr ⟨_, "LimpMirror$Pane", mw_361, mw_362, by decide +kernel, by decide +kernel, Or.inl ⟨mw_359, _, _, _, mw_123⟩, mw_367⟩⟩, List.forall_mem_cons.mpr ⟨⟨RX7, TX7, 2, _, rfl, rfl, mw_359, mw_119, Or.inl ⟨mw_361, mw_368⟩⟩, List.forall_mem_cons.mpr ⟨⟨RX9, TX9, 2, _, rfl, rfl, mw_369, mw_146, Or.inr ⟨_, "LimpMirror$Pane", mw_361, mw_362, by decide +kernel, by decide +kernel, Or.inl ⟨mw_359, _, _, _, mw_123⟩, mw_370⟩⟩, List.forall_mem_cons.mpr ⟨⟨RX10, TX10, 2, _, rfl, rfl, mw_359, mw_119, Or.inl ⟨mw_361, mw_371⟩⟩, fun _ h => absurd h List.not_mem_nil⟩⟩⟩⟩⟩⟩, List.forall_mem_cons.mpr ⟨List.forall_mem_cons.mpr ⟨⟨RX8, TX8, 5, _, rfl, rfl, mw_372, mw_127, Or.inl ⟨mw_373, mw_374⟩⟩, fun _ h => absurd h List.not_mem_nil⟩, List.forall_mem_cons.mpr ⟨List.forall_mem_cons.mpr ⟨⟨RX8, TX8, 5, _, rfl, rfl, mw_375, mw_127, Or.inl ⟨mw_376, mw_377⟩⟩, fun _ h => absurd h List.not_mem_nil⟩, List.forall_mem_cons.mpr ⟨⟨_, rfl, mw_378, mw_379⟩, fun _ h => absurd h List.not_mem_nil⟩⟩⟩⟩⟩⟩⟩⟩⟩⟩
theorem xn_ok_1 : ∀ e ∈ xNL_1, xn_G 1 e := fun _ h => absurd h List.not_mem_nil
theorem xa_ok_1 : ∀ e ∈ xAL_1, xa_G 1 e := fun _ h => absurd h List.not_mem_nil
theorem xk_ok_1 : ∀ e ∈ xKL_1, xk_G 1 e := fun _ h => absurd h List.not_mem_nil
theorem xf_ok_2 : ∀ e ∈ xFL_2, xf_G 2 e := List.forall_mem_cons.mpr ⟨List.forall_mem_cons.mpr ⟨⟨RX2, TX2, 2, rfl, by decide, mw_16, rfl, by decide +kernel, rfl⟩, fun _ h => absurd h List.not_mem_nil⟩, List.forall_mem_cons.mpr ⟨List.forall_mem_cons.mpr ⟨⟨RX2, TX2, 2, rfl, by decide, mw_17, rfl, by decide +kernel, rfl⟩, fun _ h => absurd h List.not_mem_nil⟩, fun _ h => absurd h List.not_mem_nil⟩⟩
theorem xc_ok_2 : ∀ e ∈ xCL_2, xc_G 2 e := List.forall_mem_cons.mpr ⟨⟨_, rfl, xnw_1, mw_318, rfl, rfl⟩, List.forall_mem_cons.mpr ⟨List.forall_mem_cons.mpr ⟨⟨RX2, TX2, 2, _, rfl, rfl, mw_380, mw_89, Or.inl ⟨mw_381, mw_382⟩⟩, fun _ h => absurd h List.not_mem_nil⟩, List.forall_mem_cons.mpr ⟨List.forall_mem_cons.mpr ⟨⟨RX2, TX2, 2, _, rfl, rfl, mw_383, mw_89, Or.inl ⟨mw_384, mw_385⟩⟩, fun _ h => absurd h List.not_mem_nil⟩, List.forall_mem_cons.mpr ⟨⟨mw_386, mw_333, mw_334, mw_335⟩, List.forall_mem_cons.mpr ⟨List.forall_mem_cons.mpr ⟨⟨RX2, TX2, 2, _, rfl, rfl, mw_387, mw_89, Or.inl ⟨mw_388, mw_389⟩⟩, fun _ h => absurd h List.not_mem_nil⟩, fun _ h => absurd h List.not_mem_nil⟩⟩⟩⟩⟩
theorem xn_ok_2 : ∀ e ∈ xNL_2, xn_G 2 e := fun _ h => absurd h List.not_mem_nil
theorem xa_ok_2 : ∀ e ∈ xAL_2, xa_G 2 e := fun _ h => absurd h List.not_mem_nil
theorem xk_ok_2 : ∀ e ∈ xKL_2, xk_G 2 e := fun _ h => absurd h List.not_mem_nil
theorem xf_ok_3 : ∀ e ∈ xFL_3, xf_G 3 e := fun _ h => absurd h List.not_mem_nil
theorem xc_ok_3 : ∀ e ∈ xCL_3, xc_G 3 e := List.forall_mem_cons.mpr ⟨⟨mw_390, mw_346, mw_347⟩, fun _ h => absurd h List.not_mem_nil⟩
theorem xn_ok_3 : ∀ e ∈ xNL_3, xn_G 3 e := fun _ h => absurd h List.not_mem_nil
theorem xa_ok_3 : ∀ e ∈ xAL_3, xa_G 3 e := fun _ h => absurd h List.not_mem_nil
theorem xk_ok_3 : ∀ e ∈ xKL_3, xk_G 3 e := fun _ h => absurd h List.not_mem_nil
theorem xf_ok_4 : ∀ e ∈ xFL_4, xf_G 4 e := fun _ h => absurd h List.not_mem_nil
theorem xc_ok_4 : ∀ e ∈ xCL_4, xc_G 4 e := List.forall_mem_cons.mpr ⟨⟨_, rfl, mw_391, mw_392, rfl, rfl⟩, List.forall_mem_cons.mpr ⟨⟨_, rfl, ⟨"LimpMirror$Friend", "isOdd", "(I)Z"⟩, rfl, rfl, mw_393, mw_394, mw_395⟩, fun _ h => absurd h List.not_mem_nil⟩⟩
theorem xn_ok_4 : ∀ e ∈ xNL_4, xn_G 4 e := fun _ h => absurd h List.not_mem_nil
theorem xa_ok_4 : ∀ e ∈ xAL_4, xa_G 4 e := fun _ h => absurd h List.not_mem_nil
theorem xk_ok_4 : ∀ e ∈ xKL_4, xk_G 4 e := fun _ h => absurd h List.not_mem_nil
theorem xf_ok_5 : ∀ e ∈ xFL_5, xf_G 5 e := fun _ h => absurd h List.not_mem_nil
theorem xc_ok_5 : ∀ e ∈ xCL_5, xc_G 5 e := List.forall_mem_cons.mpr ⟨⟨_, rfl, mw_396, mw_397, rfl, rfl⟩, List.forall_mem_cons.mpr ⟨List.forall_mem_cons.mpr ⟨⟨RX5, TX5, 2, _, rfl, rfl, mw_398, mw_119, Or.inr ⟨_, "LimpMirror$Pane", mw_399, mw_400, by decide +kernel, by decide +kernel, Or.inl ⟨mw_398, _, _, _, mw_121⟩, mw_401⟩⟩, List.forall_mem_cons.mpr ⟨⟨RX6, TX6, 2, _, rfl, rfl, mw_398, mw_119, Or.inr ⟨_, "LimpMirror$Pane", mw_399, mw_400, by decide +kernel, by decide +kernel, Or.inl ⟨mw_398, _, _, _, mw_121⟩, mw_402⟩⟩, fun _ h => absurd h List.not_mem_nil⟩⟩, List.forall_mem_cons.mpr ⟨⟨_, rfl, mw_403, mw_404, mw_405, mw_406, by decide +kernel⟩, fun _ h => absurd h List.not_mem_nil⟩⟩⟩
theorem xn_ok_5 : ∀ e ∈ xNL_5, xn_G 5 e := fun _ h => absurd h List.not_mem_nil
theorem xa_ok_5 : ∀ e ∈ xAL_5, xa_G 5 e := fun _ h => absurd h List.not_mem_nil
theorem xk_ok_5 : ∀ e ∈ xKL_5, xk_G 5 e := fun _ h => absurd h List.not_mem_nil
theorem xf_ok_6 : ∀ e ∈ xFL_6, xf_G 6 e := fun _ h => absurd h List.not_mem_nil
theorem xc_ok_6 : ∀ e ∈ xCL_6, xc_G 6 e := List.forall_mem_cons.mpr ⟨⟨_, rfl, mw_407, mw_408, rfl, rfl⟩, List.forall_mem_cons.mpr ⟨⟨_, rfl, mw_409, mw_410⟩, List.forall_mem_cons.mpr ⟨⟨_, rfl, mw_411, mw_412, mw_413, mw_364, by decide +kernel⟩, fun _ h => absurd h List.not_mem_nil⟩⟩⟩
theorem xn_ok_6 : ∀ e ∈ xNL_6, xn_G 6 e := fun _ h => absurd h List.not_mem_nil
theorem xa_ok_6 : ∀ e ∈ xAL_6, xa_G 6 e := fun _ h => absurd h List.not_mem_nil
theorem xk_ok_6 : ∀ e ∈ xKL_6, xk_G 6 e := fun _ h => absurd h List.not_mem_nil
theorem xf_ok_7 : ∀ e ∈ xFL_7, xf_G 7 e := List.forall_mem_cons.mpr ⟨List.forall_mem_cons.mpr ⟨⟨RX4, TX4, 2, rfl, by decide, mw_30, rfl, by decide +kernel, rfl⟩, List.forall_mem_cons.mpr ⟨⟨RX5, TX5, 2, rfl, by decide, mw_30, rfl, by decide +kernel, rfl⟩, List.forall_mem_cons.mpr ⟨⟨RX6, TX6, 2, rfl, by decide, mw_30, rfl, by decide +kernel, rfl⟩, List.forall_mem_cons.mpr ⟨⟨RX7, TX7, 2, rfl, by decide, mw_30, rfl, by decide +kernel, rfl⟩, List.forall_mem_cons.mpr ⟨⟨RX9, TX9, 2, rfl, by decide, mw_30, rfl, by decide +kernel, rfl⟩, List.forall_mem_cons.mpr ⟨⟨RX10, TX10, 2, rfl, by decide, mw_30, rfl, by decide +kernel, rfl⟩, fun _ h => absurd h List.not_mem_nil⟩⟩⟩⟩⟩⟩, List.forall_mem_cons.mpr ⟨List.forall_mem_cons.mpr ⟨⟨RX4, TX4, 2, rfl, by decide, mw_31, rfl, by decide +kernel, rfl⟩, List.forall_mem_cons.mpr ⟨⟨RX5, TX5, 2, rfl, by decide, mw_31, rfl, by decide +kernel, rfl⟩, List.forall_mem_cons.mpr ⟨⟨RX6, TX6, 2, rfl, by decide, mw_31, rfl, by decide +kernel, rfl⟩, List.forall_mem_cons.mpr ⟨⟨RX7, TX7, 2, rfl, by decide, mw_31, rfl, by decide +kernel, rfl⟩, List.forall_mem_cons.mpr ⟨⟨RX9, TX9, 2, rfl, by decide, mw_31, rfl, by decide +kernel, rfl⟩, List.forall_mem_cons.mpr ⟨⟨RX10, TX10, 2, rfl, by decide, mw_31, rfl, by decide +kernel, rfl⟩, fun _ h => absurd h List.not_mem_nil⟩⟩⟩⟩⟩⟩, fun _ h => absurd h List.not_mem_nil⟩⟩
theorem xc_ok_7 : ∀ e ∈ xCL_7, xc_G 7 e := List.forall_mem_cons.mpr ⟨⟨mw_414, mw_346, mw_347⟩, fun _ h => absurd h List.not_mem_nil⟩
theorem xn_ok_7 : ∀ e ∈ xNL_7, xn_G 7 e := fun _ h => absurd h List.not_mem_nil
theorem xa_ok_7 : ∀ e ∈ xAL_7, xa_G 7 e := fun _ h => absurd h List.not_mem_nil
theorem xk_ok_7 : ∀ e ∈ xKL_7, xk_G 7 e := fun _ h => absurd h List.not_mem_nil
theorem xf_ok_8 : ∀ e ∈ xFL_8, xf_G 8 e := List.forall_mem_cons.mpr ⟨List.forall_mem_cons.mpr ⟨⟨RX8, TX8, 5, rfl, by decide, mw_18, rfl, by decide +kernel, rfl⟩, fun _ h => absurd h List.not_mem_nil⟩, List.forall_mem_cons.mpr ⟨List.forall_mem_cons.mpr ⟨⟨RX8, TX8, 5, rfl, by decide, mw_19, rfl, by decide +kernel, rfl⟩, fun _ h => absurd h List.not_mem_nil⟩, List.forall_mem_cons.mpr ⟨List.forall_mem_cons.mpr ⟨⟨RX8, TX8, 5, rfl, by decide, mw_20, rfl, by decide +kernel, rfl⟩, fun _ h => absurd h List.not_mem_nil⟩, List.forall_mem_cons.mpr ⟨List.forall_mem_cons.mpr ⟨⟨RX8, TX8, 5, rfl, by decide, mw_21, rfl, by decide +kernel, rfl⟩, fun _ h => absurd h List.not_mem_nil⟩, List.forall_mem_cons.mpr ⟨List.forall_mem_cons.mpr ⟨⟨RX8, TX8, 5, rfl, by decide, mw_22, rfl, by decide +kernel, rfl⟩, fun _ h => absurd h List.not_mem_nil⟩, fun _ h => absurd h List.not_mem_nil⟩⟩⟩⟩⟩
theorem xc_ok_8 : ∀ e ∈ xCL_8, xc_G 8 e := List.forall_mem_cons.mpr ⟨⟨mw_415, mw_346, mw_347⟩, List.forall_mem_cons.mpr ⟨⟨_, rfl, xnw_2, mw_416⟩, List.forall_mem_cons.mpr ⟨List.forall_mem_cons.mpr ⟨⟨RX4, TX4, 2, _, rfl, rfl, mw_418, mw_107, Or.inr ⟨_, "LimpMirror$Pane", mw_419, mw_420, by decide +kernel, by decide +kernel, Or.inl ⟨mw_417, _, _, _, mw_124⟩, mw_421⟩⟩, List.forall_mem_cons.mpr ⟨⟨RX5, TX5, 2, _, rfl, rfl, mw_417, mw_119, Or.inl ⟨mw_419, mw_422⟩⟩, List.forall_mem_cons.mpr ⟨⟨RX6, TX6, 2, _, rfl, rfl, mw_417, mw_119, Or.inl ⟨mw_419, mw_423⟩⟩, List.forall_mem_cons.mpr ⟨⟨RX7, TX7, 2, _, rfl, rfl, mw_417, mw_119, Or.inl ⟨mw_419, mw_424⟩⟩, List.forall_mem_cons.mpr ⟨⟨RX9, TX9, 2, _, rfl, rfl, mw_417, mw_119, Or.inl ⟨mw_419, mw_425⟩⟩, List.forall_mem_cons.mpr ⟨⟨RX10, TX10, 2, _, rfl, rfl, mw_426, mw_150, Or.inr ⟨_, "LimpMirror$Pane", mw_419, mw_420, by decide +kernel, by decide +kernel, Or.inl ⟨mw_417, _, _, _, mw_124⟩, mw_427⟩⟩, fun _ h => absurd h List.not_mem_nil⟩⟩⟩⟩⟩⟩, List.forall_mem_cons.mpr ⟨List.forall_mem_cons.mpr ⟨⟨RX8, TX8, 5, _, rfl, rfl, mw_428, mw_127, Or.inl ⟨mw_429, mw_430⟩⟩, fun _ h => absurd h List.not_mem_nil⟩, List.forall_mem_cons.mpr ⟨List.forall_mem_cons.mpr ⟨⟨RX4, TX4, 2, _, rfl, rfl, mw_360, mw_107, Or.inr ⟨_, "LimpMirror$Pane", mw_431, mw_362, by decide +kernel, by decide +kernel, Or.inl ⟨mw_359, _, _, _, mw_123⟩, mw_363⟩⟩, List.forall_mem_cons.mpr ⟨⟨RX5, TX5, 2, _, rfl, rfl, mw_364, mw_111, Or.inr ⟨_, "LimpMirror$Pane", mw_431, mw_362, by decide +kernel, by decide +kernel, Or.inl ⟨mw_359, _, _, _, mw_123⟩, mw_365⟩⟩, List.forall_mem_cons.mpr ⟨⟨RX6, TX6, 2, _, rfl, rfl, mw_366, mw_115, Or.inr ⟨_, "LimpMirror$Pane", mw_431, mw_362, by decide +kernel, by decide +kernel, Or.inl ⟨mw_359, _, _, _, mw_123⟩, mw_367⟩⟩, List.forall_mem_cons.mpr ⟨⟨RX7, TX7, 2, _, rfl, rfl, mw_359, mw_119, Or.inl ⟨mw_431, mw_368⟩⟩, List.forall_mem_cons.mpr ⟨⟨RX9, TX9, 2, _, rfl, rfl, mw_369, mw_146, Or.inr ⟨_, "LimpMirror$Pane", mw_431, mw_362, by decide +kernel, by decide +kernel, Or.inl ⟨mw_359, _, _, _, mw_123⟩, mw_370⟩⟩, List.forall_mem_cons.mpr ⟨⟨RX10, TX10, 2, _, rfl, rfl, mw_359, mw_119, Or.inl ⟨mw_431, mw_371⟩⟩, fun _ h => absurd h List.not_mem_nil⟩⟩⟩⟩⟩⟩, List.forall_mem_cons.mpr ⟨List.forall_mem_cons.mpr ⟨⟨RX0, TX0, 2, _, rfl, rfl, mw_432, mw_65, Or.inr ⟨_, "LimpMirror$Doings", mw_433, mw_434, by decide +kernel, by decide +kernel, Or.inr xnw_3, mw_435⟩⟩, List.forall_mem_cons.mpr ⟨⟨RX2, TX2, 2, _, rfl, rfl, mw_436, mw_89, Or.inr ⟨_, "LimpMirror$Doings", mw_433, mw_434, by decide +kernel, by decide +kernel, Or.inr xnw_3, mw_437⟩⟩, fun _ h => absurd h List.not_mem_nil⟩⟩, List.forall_mem_cons.mpr ⟨List.forall_mem_cons.mpr ⟨⟨RX8, TX8, 5, _, rfl, rfl, mw_372, mw_127, Or.inl ⟨mw_438, mw_374⟩⟩, fun _ h => absurd h List.not_mem_nil⟩, List.forall_mem_cons.mpr ⟨List.forall_mem_cons.mpr ⟨⟨RX8, TX8, 5, _, rfl, rfl, mw_439, mw_127, Or.inl ⟨mw_440, mw_441⟩⟩, fun _ h => absurd h List.not_mem_nil⟩, List.forall_mem_cons.mpr ⟨⟨_, rfl, mw_442, mw_443⟩, List.forall_mem_cons.mpr ⟨List.forall_mem_cons.mpr ⟨⟨RX0, TX0, 2, _, rfl, rfl, mw_444, mw_65, Or.inl ⟨mw_445, mw_446⟩⟩, fun _ h => absurd h List.not_mem_nil⟩, List.forall_mem_cons.mpr ⟨List.forall_mem_cons.mpr ⟨⟨RX0, TX0, 2, _, rfl, rfl, mw_342, mw_65, Or.inl ⟨mw_447, mw_344⟩⟩, fun _ h => absurd h List.not_mem_nil⟩, List.forall_mem_cons.mpr ⟨⟨_, rfl, mw_448, mw_449⟩, List.forall_mem_cons.mpr ⟨List.forall_mem_cons.mpr ⟨⟨RX8, TX8, 5, _, rfl, rfl, mw_450, mw_127, Or.inl ⟨mw_451, mw_452⟩⟩, fun _ h => absurd h List.not_mem_nil⟩, List.forall_mem_cons.mpr ⟨List.forall_mem_cons.mpr ⟨⟨RX8, TX8, 5, _, rfl, rfl, mw_453, mw_127, Or.inl ⟨mw_454, mw_455⟩⟩, fun _ h => absurd h List.not_mem_nil⟩, List.forall_mem_cons.mpr ⟨List.forall_mem_cons.mpr ⟨⟨RX8, TX8, 5, _, rfl, rfl, mw_456, mw_127, Or.inl ⟨mw_457, mw_458⟩⟩, fun _ h => absurd h List.not_mem_nil⟩, List.forall_mem_cons.mpr ⟨⟨_, rfl, mw_459, mw_460⟩, List.forall_mem_cons.mpr ⟨List.forall_mem_cons.mpr ⟨⟨RX0, TX0, 2, _, rfl, rfl, mw_323, mw_65, Or.inl ⟨mw_461, mw_325⟩⟩, fun _ h => absurd h List.not_mem_nil⟩, fun _ h => absurd h List.not_mem_nil⟩⟩⟩⟩⟩⟩⟩⟩⟩⟩⟩⟩⟩⟩⟩⟩⟩
theorem xn_ok_8 : ∀ e ∈ xNL_8, xn_G 8 e := fun _ h => absurd h List.not_mem_nil
theorem xa_ok_8 : ∀ e ∈ xAL_8, xa_G 8 e := fun _ h => absurd h List.not_mem_nil
theorem xk_ok_8 : ∀ e ∈ xKL_8, xk_G 8 e := fun _ h => absurd h List.not_mem_nil
theorem xf_ok_9 : ∀ e ∈ xFL_9, xf_G 9 e := fun _ h => absurd h List.not_mem_nil
theorem xc_ok_9 : ∀ e ∈ xCL_9, xc_G 9 e := List.forall_mem_cons.mpr ⟨⟨_, rfl, mw_462, mw_397, rfl, rfl⟩, List.forall_mem_cons.mpr ⟨⟨_, rfl, ⟨"LimpMirror$Thin", "isOdd", "(I)Z"⟩, rfl, rfl, mw_463, mw_464, mw_395⟩, List.forall_mem_cons.mpr ⟨⟨_, rfl, mw_465, mw_404, mw_466, mw_406, by decide +kernel⟩, fun _ h => absurd h List.not_mem_nil⟩⟩⟩
theorem xn_ok_9 : ∀ e ∈ xNL_9, xn_G 9 e := fun _ h => absurd h List.not_mem_nil
theorem xa_ok_9 : ∀ e ∈ xAL_9, xa_G 9 e := fun _ h => absurd h List.not_mem_nil
theorem xk_ok_9 : ∀ e ∈ xKL_9, xk_G 9 e := fun _ h => absurd h List.not_mem_nil
theorem xf_ok_10 : ∀ e ∈ xFL_10, xf_G 10 e := fun _ h => absurd h List.not_mem_nil
theorem xc_ok_10 : ∀ e ∈ xCL_10, xc_G 10 e := List.forall_mem_cons.mpr ⟨⟨_, rfl, mw_467, mw_397, rfl, rfl⟩, fun _ h => absurd h List.not_mem_nil⟩
theorem xn_ok_10 : ∀ e ∈ xNL_10, xn_G 10 e := fun _ h => absurd h List.not_mem_nil
theorem xa_ok_10 : ∀ e ∈ xAL_10, xa_G 10 e := fun _ h => absurd h List.not_mem_nil
theorem xk_ok_10 : ∀ e ∈ xKL_10, xk_G 10 e := fun _ h => absurd h List.not_mem_nil
theorem xf_ok_11 : ∀ e ∈ xFL_11, xf_G 11 e := List.forall_mem_cons.mpr ⟨List.forall_mem_cons.mpr ⟨⟨RX11, TX11, 16, rfl, by decide, mw_0, rfl, by decide +kernel, rfl⟩, fun _ h => absurd h List.not_mem_nil⟩, List.forall_mem_cons.mpr ⟨List.forall_mem_cons.mpr ⟨⟨RX11, TX11, 16, rfl, by decide, mw_1, rfl, by decide +kernel, rfl⟩, fun _ h => absurd h List.not_mem_nil⟩, List.forall_mem_cons.mpr ⟨List.forall_mem_cons.mpr ⟨⟨RX11, TX11, 16, rfl, by decide, mw_2, rfl, by decide +kernel, rfl⟩, fun _ h => absurd h List.not_mem_nil⟩, List.forall_mem_cons.mpr ⟨List.forall_mem_cons.mpr ⟨⟨RX11, TX11, 16, rfl, by decide, mw_3, rfl, by decide +kernel, rfl⟩, fun _ h => absurd h List.not_mem_nil⟩, List.forall_mem_cons.mpr ⟨List.forall_mem_cons.mpr ⟨⟨RX11, TX11, 16, rfl, by decide, mw_4, rfl, by decide +kernel, rfl⟩, fun _ h => absurd h List.not_mem_nil⟩, List.forall_mem_cons.mpr ⟨List.forall_mem_cons.mpr ⟨⟨RX11, TX11, 16, rfl, by decide, mw_5, rfl, by decide +kernel, rfl⟩, fun _ h => absurd h List.not_mem_nil⟩, List.forall_mem_cons.mpr ⟨List.forall_mem_cons.mpr ⟨⟨RX11, TX11, 16, rfl, by decide, mw_6, rfl, by decide +kernel, rfl⟩, fun _ h => absurd h List.not_mem_nil⟩, List.forall_mem_cons.mpr ⟨List.forall_mem_cons.mpr ⟨⟨RX11, TX11, 16, rfl, by decide, mw_7, rfl, by decide +kernel, rfl⟩, fun _ h => absurd h List.not_mem_nil⟩, List.forall_mem_cons.mpr ⟨List.forall_mem_cons.mpr ⟨⟨RX11, TX11, 16, rfl, by decide, mw_8, rfl, by decide +kernel, rfl⟩, fun _ h => absurd h List.not_mem_nil⟩, List.forall_mem_cons.mpr ⟨List.forall_mem_cons.mpr ⟨⟨RX11, TX11, 16, rfl, by decide, mw_9, rfl, by decide +kernel, rfl⟩, fun _ h => absurd h List.not_mem_nil⟩, List.forall_mem_cons.mpr ⟨List.forall_mem_cons.mpr ⟨⟨RX11, TX11, 16, rfl, by decide, mw_10, rfl, by decide +kernel, rfl⟩, fun _ h => absurd h List.not_mem_nil⟩, List.forall_mem_cons.mpr ⟨List.forall_mem_cons.mpr ⟨⟨RX11, TX11, 16, rfl, by decide, mw_11, rfl, by decide +kernel, rfl⟩, fun _ h => absurd h List.not_mem_nil⟩, List.forall_mem_cons.mpr ⟨List.forall_mem_cons.mpr ⟨⟨RX11, TX11, 16, rfl, by decide, mw_12, rfl, by decide +kernel, rfl⟩, fun _ h => absurd h List.not_mem_nil⟩, List.forall_mem_cons.mpr ⟨List.forall_mem_cons.mpr ⟨⟨RX11, TX11, 16, rfl, by decide, mw_13, rfl, by decide +kernel, rfl⟩, fun _ h => absurd h List.not_mem_nil⟩, List.forall_mem_cons.mpr ⟨List.forall_mem_cons.mpr ⟨⟨RX11, TX11, 16, rfl, by decide, mw_14, rfl, by decide +kernel, rfl⟩, fun _ h => absurd h List.not_mem_nil⟩, List.forall_mem_cons.mpr ⟨List.forall_mem_cons.mpr ⟨⟨RX11, TX11, 16, rfl, by decide, mw_15, rfl, by decide +kernel, rfl⟩, fun _ h => absurd h List.not_mem_nil⟩, fun _ h => absurd h List.not_mem_nil⟩⟩⟩⟩⟩⟩⟩⟩⟩⟩⟩⟩⟩⟩⟩⟩
theorem xc_ok_11 : ∀ e ∈ xCL_11, xc_G 11 e := List.forall_mem_cons.mpr ⟨⟨mw_468, mw_346, mw_347⟩, List.forall_mem_cons.mpr ⟨⟨_, rfl, xnw_4, mw_469, rfl, rfl⟩, List.forall_mem_cons.mpr ⟨⟨_, rfl, xnw_5, mw_470, rfl, rfl⟩, List.forall_mem_cons.mpr ⟨⟨_, rfl, mw_471, mw_472, rfl, rfl⟩, List.forall_mem_cons.mpr ⟨⟨_, rfl, xnw_6, mw_473, rfl, rfl⟩, List.forall_mem_cons.mpr ⟨⟨_, rfl, mw_474, mw_475⟩, List.forall_mem_cons.mpr ⟨List.forall_mem_cons.mpr ⟨⟨RX2, TX2, 2, _, rfl, rfl, mw_476, mw_89, Or.inl ⟨mw_477, mw_478⟩⟩, fun _ h => absurd h List.not_mem_nil⟩, List.forall_mem_cons.mpr ⟨⟨_, rfl, mw_479, mw_480⟩, List.forall_mem_cons.mpr ⟨List.forall_mem_cons.mpr ⟨⟨RX11, TX11, 16, _, rfl, rfl, mw_481, mw_153, Or.inl ⟨mw_482, mw_483⟩⟩, fun _ h => absurd h List.not_mem_nil⟩, List.forall_mem_cons.mpr ⟨List.forall_mem_cons.mpr ⟨⟨RX0, TX0, 2, _, rfl, rfl, mw_336, mw_65, Or.inl ⟨mw_484, mw_338⟩⟩, fun _ h => absurd h List.not_mem_nil⟩, List.forall_mem_cons.mpr ⟨⟨_, rfl, mw_485, mw_486⟩, List.forall_mem_cons.mpr ⟨List.forall_mem_cons.mpr ⟨⟨RX0, TX0, 2, _, rfl, rfl, mw_342, mw_65, Or.inl ⟨mw_487, mw_344⟩⟩, fun _ h => absurd h List.not_mem_nil⟩, List.forall_mem_cons.mpr ⟨List.forall_mem_cons.mpr ⟨⟨RX0, TX0, 2, _, rfl, rfl, mw_488, mw_65, Or.inl ⟨mw_489, mw_490⟩⟩, fun _ h => absurd h List.not_mem_nil⟩, List.forall_mem_cons.mpr ⟨List.forall_mem_cons.mpr ⟨⟨RX0, TX0, 2, _, rfl, rfl, mw_491, mw_65, Or.inl ⟨mw_492, mw_493⟩⟩, fun _ h => absurd h List.not_mem_nil⟩, List.forall_mem_cons.mpr ⟨List.forall_mem_cons.mpr ⟨⟨RX0, TX0, 2, _, rfl, rfl, mw_494, mw_65, Or.inl ⟨mw_495, mw_496⟩⟩, fun _ h => absurd h List.not_mem_nil⟩, List.forall_mem_cons.mpr ⟨List.forall_mem_cons.mpr ⟨⟨RX0, TX0, 2, _, rfl, rfl, mw_329, mw_65, Or.inl ⟨mw_497, mw_331⟩⟩, fun _ h => absurd h List.not_mem_nil⟩, List.forall_mem_cons.mpr ⟨List.forall_mem_cons.mpr ⟨⟨RX0, TX0, 2, _, rfl, rfl, mw_339, mw_65, Or.inl ⟨mw_498, mw_341⟩⟩, fun _ h => absurd h List.not_mem_nil⟩, List.forall_mem_cons.mpr ⟨List.forall_mem_cons.mpr ⟨⟨RX0, TX0, 2, _, rfl, rfl, mw_444, mw_65, Or.inl ⟨mw_499, mw_446⟩⟩, fun _ h => absurd h List.not_mem_nil⟩, List.forall_mem_cons.mpr ⟨⟨_, rfl, mw_500, mw_501⟩, List.forall_mem_cons.mpr ⟨List.forall_mem_cons.mpr ⟨⟨RX8, TX8, 5, _, rfl, rfl, mw_502, mw_127, Or.inl ⟨mw_503, mw_504⟩⟩, fun _ h => absurd h List.not_mem_nil⟩, List.forall_mem_cons.mpr ⟨List.forall_mem_cons.mpr ⟨⟨RX2, TX2, 2, _, rfl, rfl, mw_505, mw_89, Or.inl ⟨mw_506, mw_507⟩⟩, fun _ h => absurd h List.not_mem_nil⟩, List.forall_mem_cons.mpr ⟨List.forall_mem_cons.mpr ⟨⟨RX8, TX8, 5, _, rfl, rfl, mw_508, mw_127, Or.inl ⟨mw_509, mw_510⟩⟩, fun _ h => absurd h List.not_mem_nil⟩, List.forall_mem_cons.mpr ⟨List.forall_mem_cons.mpr ⟨⟨RX11, TX11, 16, _, rfl, rfl, mw_511, mw_153, Or.inl ⟨mw_512, mw_513⟩⟩, fun _ h => absurd h List.not_mem_nil⟩, List.forall_mem_cons.mpr ⟨List.forall_mem_cons.mpr ⟨⟨RX11, TX11, 16, _, rfl, rfl, mw_514, mw_153, Or.inl ⟨mw_515, mw_516⟩⟩, fun _ h => absurd h List.not_mem_nil⟩, List.forall_mem_cons.mpr ⟨List.forall_mem_cons.mpr ⟨⟨RX11, TX11, 16, _, rfl, rfl, mw_517, mw_153, Or.inl ⟨mw_518, mw_519⟩⟩, fun _ h => absurd h List.not_mem_nil⟩, List.forall_mem_cons.mpr ⟨List.forall_mem_cons.mpr ⟨⟨RX2, TX2, 2, _, rfl, rfl, mw_520, mw_89, Or.inl ⟨mw_521, mw_522⟩⟩, fun _ h => absurd h List.not_mem_nil⟩, List.forall_mem_cons.mpr ⟨List.forall_mem_cons.mpr ⟨⟨RX4, TX4, 2, _, rfl, rfl, mw_523, mw_146, Or.inr ⟨_, "LimpMirror$Pane", mw_524, mw_404, by decide +kernel, by decide +kernel, Or.inl ⟨mw_406, _, _, _, mw_122⟩, mw_525⟩⟩, List.forall_mem_cons.mpr ⟨⟨RX5, TX5, 2, _, rfl, rfl, mw_526, mw_111, Or.inr ⟨_, "LimpMirror$Pane", mw_524, mw_404, by decide +kernel, by decide +kernel, Or.inl ⟨mw_406, _, _, _, mw_122⟩, mw_527⟩⟩, List.forall_mem_cons.mpr ⟨⟨RX6, TX6, 2, _, rfl, rfl, mw_526, mw_111, Or.inr ⟨_, "LimpMirror$Pane", mw_524, mw_404, by decide +kernel, by decide +kernel, Or.inl ⟨mw_406, _, _, _, mw_122⟩, mw_528⟩⟩, List.forall_mem_cons.mpr ⟨⟨RX7, TX7, 2, _, rfl, rfl, mw_406, mw_119, Or.inl ⟨mw_524, mw_529⟩⟩, List.forall_mem_cons.mpr ⟨⟨RX9, TX9, 2, _, rfl, rfl, mw_523, mw_146, Or.inr ⟨_, "LimpMirror$Pane", mw_524, mw_404, by decide +kernel, by decide +kernel, Or.inl ⟨mw_406, _, _, _, mw_122⟩, mw_530⟩⟩, List.forall_mem_cons.mpr ⟨⟨RX10, TX10, 2, _, rfl, rfl, mw_406, mw_119, Or.inl ⟨mw_524, mw_531⟩⟩, fun _ h => absurd h List.not_mem_nil⟩⟩⟩⟩⟩⟩, List.forall_mem_cons.mpr ⟨List.forall_mem_cons.mpr ⟨⟨RX4, TX4, 2, _, rfl, rfl, mw_398, mw_119, Or.inl ⟨mw_532, mw_533⟩⟩, List.forall_mem_cons.mpr ⟨⟨RX5, TX5, 2, _, rfl, rfl, mw_398, mw_119, Or.inl ⟨mw_532, mw_534⟩⟩, List.forall_mem_cons.mpr ⟨⟨RX6, TX6, 2, _, rfl, rfl, mw_398, mw_119, Or.inl ⟨mw_532, mw_535⟩⟩, List.forall_mem_cons.mpr ⟨⟨RX7, TX7, 2, _, rfl, rfl, mw_398, mw_119, Or.inl ⟨mw_532, mw_536⟩⟩, List.forall_mem_cons.mpr ⟨⟨RX9, TX9, 2, _, rfl, rfl, mw_398, mw_119, Or.inl ⟨mw_532, mw_537⟩⟩, List.forall_mem_cons.mpr ⟨⟨RX10, TX10, 2, _, rfl, rfl, mw_398, mw_119, Or.inl ⟨mw_532, mw_538⟩⟩, fun _ h => absurd h List.not_mem_nil⟩⟩⟩⟩⟩⟩, List.forall_mem_cons.mpr ⟨List.forall_mem_cons.mpr ⟨⟨RX8, TX8, 5, _, rfl, rfl, mw_539, mw_127, Or.inl ⟨mw_540, mw_541⟩⟩, fun _ h => absurd h List.not_mem_nil⟩, List.forall_mem_cons.mpr ⟨List.forall_mem_cons.mpr ⟨⟨RX11, TX11, 16, _, rfl, rfl, mw_542, mw_153, Or.inl ⟨mw_543, mw_544⟩⟩, fun _ h => absurd h List.not_mem_nil⟩, List.forall_mem_cons.mpr ⟨List.forall_mem_cons.mpr ⟨⟨RX8, TX8, 5, _, rfl, rfl, mw_545, mw_127, Or.inl ⟨mw_546, mw_547⟩⟩, fun _ h => absurd h List.not_mem_nil⟩, List.forall_mem_cons.mpr ⟨⟨_, rfl, mw_548, mw_549⟩, List.forall_mem_cons.mpr ⟨⟨_, rfl, mw_550, mw_410⟩, List.forall_mem_cons.mpr ⟨List.forall_mem_cons.mpr ⟨⟨RX8, TX8, 5, _, rfl, rfl, mw_372, mw_127, Or.inl ⟨mw_551, mw_374⟩⟩, fun _ h => absurd h List.not_mem_nil⟩, List.forall_mem_cons.mpr ⟨⟨_, rfl, mw_552, mw_416⟩, List.forall_mem_cons.mpr ⟨List.forall_mem_cons.mpr ⟨⟨RX8, TX8, 5, _, rfl, rfl, mw_428, mw_127, Or.inl ⟨mw_553, mw_430⟩⟩, fun _ h => absurd h List.not_mem_nil⟩, List.forall_mem_cons.mpr ⟨List.forall_mem_cons.mpr ⟨⟨RX8, TX8, 5, _, rfl, rfl, mw_554, mw_127, Or.inl ⟨mw_555, mw_556⟩⟩, fun _ h => absurd h List.not_mem_nil⟩, List.forall_mem_cons.mpr ⟨List.forall_mem_cons.mpr ⟨⟨RX8, TX8, 5, _, rfl, rfl, mw_557, mw_127, Or.inl ⟨mw_558, mw_559⟩⟩, fun _ h => absurd h List.not_mem_nil⟩, List.forall_mem_cons.mpr ⟨List.forall_mem_cons.mpr ⟨⟨RX11, TX11, 16, _, rfl, rfl, mw_560, mw_153, Or.inl ⟨mw_561, mw_562⟩⟩, fun _ h => absurd h List.not_mem_nil⟩, List.forall_mem_cons.mpr ⟨List.forall_mem_cons.mpr ⟨⟨RX2, TX2, 2, _, rfl, rfl, mw_387, mw_89, Or.inl ⟨mw_563, mw_389⟩⟩, fun _ h => absurd h List.not_mem_nil⟩, List.forall_mem_cons.mpr ⟨List.forall_mem_cons.mpr ⟨⟨RX2, TX2, 2, _, rfl, rfl, mw_564, mw_89, Or.inl ⟨mw_565, mw_566⟩⟩, fun _ h => absurd h List.not_mem_nil⟩, List.forall_mem_cons.mpr ⟨List.forall_mem_cons.mpr ⟨⟨RX2, TX2, 2, _, rfl, rfl, mw_567, mw_89, Or.inl ⟨mw_568, mw_569⟩⟩, fun _ h => absurd h List.not_mem_nil⟩, List.forall_mem_cons.mpr ⟨⟨_, rfl, mw_570, mw_571⟩, List.forall_mem_cons.mpr ⟨List.forall_mem_cons.mpr ⟨⟨RX2, TX2, 2, _, rfl, rfl, mw_572, mw_89, Or.inl ⟨mw_573, mw_574⟩⟩, fun _ h => absurd h List.not_mem_nil⟩, List.forall_mem_cons.mpr ⟨List.forall_mem_cons.mpr ⟨⟨RX2, TX2, 2, _, rfl, rfl, mw_575, mw_89, Or.inl ⟨mw_576, mw_577⟩⟩, fun _ h => absurd h List.not_mem_nil⟩, List.forall_mem_cons.mpr ⟨⟨_, rfl, mw_578, mw_579⟩, List.forall_mem_cons.mpr ⟨List.forall_mem_cons.mpr ⟨⟨RX0, TX0, 2, _, rfl, rfl, mw_580, mw_65, Or.inl ⟨mw_581, mw_582⟩⟩, fun _ h => absurd h List.not_mem_nil⟩, List.forall_mem_cons.mpr ⟨List.forall_mem_cons.mpr ⟨⟨RX8, TX8, 5, _, rfl, rfl, mw_375, mw_127, Or.inl ⟨mw_583, mw_377⟩⟩, fun _ h => absurd h List.not_mem_nil⟩, List.forall_mem_cons.mpr ⟨⟨_, rfl, mw_584, mw_585⟩, List.forall_mem_cons.mpr ⟨List.forall_mem_cons.mpr ⟨⟨RX11, TX11, 16, _, rfl, rfl, mw_586, mw_153, Or.inl ⟨mw_587, mw_588⟩⟩, fun _ h => absurd h List.not_mem_nil⟩, List.forall_mem_cons.mpr ⟨List.forall_mem_cons.mpr ⟨⟨RX11, TX11, 16, _, rfl, rfl, mw_589, mw_153, Or.inl ⟨mw_590, mw_591⟩⟩, fun _ h => absurd h List.not_mem_nil⟩, List.forall_mem_cons.mpr ⟨⟨_, rfl, mw_592, mw_593⟩, List.forall_mem_cons.mpr ⟨List.forall_mem_cons.mpr ⟨⟨RX0, TX0, 2, _, rfl, rfl, mw_323, mw_65, Or.inl ⟨mw_594, mw_325⟩⟩, fun _ h => absurd h List.not_mem_nil⟩, List.forall_mem_cons.mpr ⟨List.forall_mem_cons.mpr ⟨⟨RX11, TX11, 16, _, rfl, rfl, mw_595, mw_153, Or.inl ⟨mw_596, mw_597⟩⟩, fun _ h => absurd h List.not_mem_nil⟩, List.forall_mem_cons.mpr ⟨List.forall_mem_cons.mpr ⟨⟨RX11, TX11, 16, _, rfl, rfl, mw_598, mw_153, Or.inl ⟨mw_599, mw_600⟩⟩, fun _ h => absurd h List.not_mem_nil⟩, List.forall_mem_cons.mpr ⟨List.forall_mem_cons.mpr ⟨⟨RX11, TX11, 16, _, rfl, rfl, mw_601, mw_153, Or.inl ⟨mw_602, mw_603⟩⟩, fun _ h => absurd h List.not_mem_nil⟩, List.forall_mem_cons.mpr ⟨⟨mw_604, mw_327, mw_321, mw_328⟩, List.forall_mem_cons.mpr ⟨List.forall_mem_cons.mpr ⟨⟨RX1, TX1, 5, _, rfl, rfl, mw_605, mw_78, Or.inl ⟨mw_606, mw_607⟩⟩, fun _ h => absurd h List.not_mem_nil⟩, List.forall_mem_cons.mpr ⟨List.forall_mem_cons.mpr ⟨⟨RX1, TX1, 5, _, rfl, rfl, mw_608, mw_78, Or.inl ⟨mw_609, mw_610⟩⟩, fun _ h => absurd h List.not_mem_nil⟩, List.forall_mem_cons.mpr ⟨List.forall_mem_cons.mpr ⟨⟨RX1, TX1, 5, _, rfl, rfl, mw_611, mw_78, Or.inl ⟨mw_612, mw_613⟩⟩, fun _ h => absurd h List.not_mem_nil⟩, List.forall_mem_cons.mpr ⟨List.forall_mem_cons.mpr ⟨⟨RX1, TX1, 5, _, rfl, rfl, mw_614, mw_78, Or.inl ⟨mw_615, mw_616⟩⟩, fun _ h => absurd h List.not_mem_nil⟩, List.forall_mem_cons.mpr ⟨List.forall_mem_cons.mpr ⟨⟨RX11, TX11, 16, _, rfl, rfl, mw_617, mw_153, Or.inl ⟨mw_618, mw_619⟩⟩, fun _ h => absurd h List.not_mem_nil⟩, List.forall_mem_cons.mpr ⟨List.forall_mem_cons.mpr ⟨⟨RX11, TX11, 16, _, rfl, rfl, mw_620, mw_153, Or.inl ⟨mw_621, mw_622⟩⟩, fun _ h => absurd h List.not_mem_nil⟩, List.forall_mem_cons.mpr ⟨List.forall_mem_cons.mpr ⟨⟨RX11, TX11, 16, _, rfl, rfl, mw_623, mw_153, Or.inl ⟨mw_624, mw_625⟩⟩, fun _ h => absurd h List.not_mem_nil⟩, List.forall_mem_cons.mpr ⟨⟨_, rfl, mw_626, mw_627⟩, List.forall_mem_cons.mpr ⟨List.forall_mem_cons.mpr ⟨⟨RX11, TX11, 16, _, rfl, rfl, mw_628, mw_153, Or.inl ⟨mw_629, mw_630⟩⟩, fun _ h => absurd h List.not_mem_nil⟩, List.forall_mem_cons.mpr ⟨List.forall_mem_cons.mpr ⟨⟨RX11, TX11, 16, _, rfl, rfl, mw_631, mw_153, Or.inl ⟨mw_632, mw_633⟩⟩, fun _ h => absurd h List.not_mem_nil⟩, List.forall_mem_cons.mpr ⟨⟨_, rfl, mw_634, mw_635⟩, List.forall_mem_cons.mpr ⟨⟨_, rfl, mw_636, mw_408, rfl, rfl⟩, List.forall_mem_cons.mpr ⟨⟨_, rfl, mw_637, mw_392, rfl, rfl⟩, List.forall_mem_cons.mpr ⟨⟨_, rfl, mw_638, mw_639, rfl, rfl⟩, List.forall_mem_cons.mpr ⟨⟨_, rfl, mw_640, mw_641, rfl, rfl⟩, List.forall_mem_cons.mpr ⟨⟨_, rfl, mw_642, mw_643, rfl, rfl⟩, List.forall_mem_cons.mpr ⟨⟨_, rfl, mw_644, mw_397, rfl, rfl⟩, List.forall_mem_cons.mpr ⟨List.forall_mem_cons.mpr ⟨⟨RX8, TX8, 5, _, rfl, rfl, mw_645, mw_127, Or.inl ⟨mw_646, mw_647⟩⟩, fun _ h => absurd h List.not_mem_nil⟩, List.forall_mem_cons.mpr ⟨List.forall_mem_cons.mpr ⟨⟨RX4, TX4, 2, _, rfl, rfl, mw_648, mw_119, Or.inl ⟨mw_649, mw_650⟩⟩, List.forall_mem_cons.mpr ⟨⟨RX5, TX5, 2, _, rfl, rfl, mw_648, mw_119, Or.inl ⟨mw_649, mw_651⟩⟩, List.forall_mem_cons.mpr ⟨⟨RX6, TX6, 2, _, rfl, rfl, mw_648, mw_119, Or.inl ⟨mw_649, mw_652⟩⟩, List.forall_mem_cons.mpr ⟨⟨RX7, TX7, 2, _, rfl, rfl, mw_648, mw_119, Or.inl ⟨mw_649, mw_653⟩⟩, List.forall_mem_cons.mpr ⟨⟨RX9, TX9, 2, _, rfl, rfl, mw_648, mw_119, Or.inl ⟨mw_649, mw_654⟩⟩, List.forall_mem_cons.mpr ⟨⟨RX10, TX10, 2, _, rfl, rfl, mw_648, mw_119, Or.inl ⟨mw_649, mw_655⟩⟩, fun _ h => absurd h List.not_mem_nil⟩⟩⟩⟩⟩⟩, List.forall_mem_cons.mpr ⟨List.forall_mem_cons.mpr ⟨⟨RX2, TX2, 2, _, rfl, rfl, mw_656, mw_89, Or.inl ⟨mw_657, mw_658⟩⟩, fun _ h => absurd h List.not_mem_nil⟩, List.forall_mem_cons.mpr ⟨List.forall_mem_cons.mpr ⟨⟨RX2, TX2, 2, _, rfl, rfl, mw_659, mw_89, Or.inl ⟨mw_660, mw_661⟩⟩, fun _ h => absurd h List.not_mem_nil⟩, List.forall_mem_cons.mpr ⟨List.forall_mem_cons.mpr ⟨⟨RX2, TX2, 2, _, rfl, rfl, mw_662, mw_89, Or.inl ⟨mw_663, mw_664⟩⟩, fun _ h => absurd h List.not_mem_nil⟩, List.forall_mem_cons.mpr ⟨List.forall_mem_cons.mpr ⟨⟨RX8, TX8, 5, _, rfl, rfl, mw_439, mw_127, Or.inl ⟨mw_665, mw_441⟩⟩, fun _ h => absurd h List.not_mem_nil⟩, List.forall_mem_cons.mpr ⟨List.forall_mem_cons.mpr ⟨⟨RX2, TX2, 2, _, rfl, rfl, mw_383, mw_89, Or.inl ⟨mw_666, mw_385⟩⟩, fun _ h => absurd h List.not_mem_nil⟩, List.forall_mem_cons.mpr ⟨List.forall_mem_cons.mpr ⟨⟨RX4, TX4, 2, _, rfl, rfl, mw_360, mw_107, Or.inr ⟨_, "LimpMirror$Pane", mw_667, mw_362, by decide +kernel, by decide +kernel, Or.inl ⟨mw_359, _, _, _, mw_123⟩, mw_363⟩⟩, List.forall_mem_cons.mpr ⟨⟨RX5, TX5, 2, _, rfl, rfl, mw_364, mw_111, Or.inr ⟨_, "LimpMirror$Pane", mw_667, mw_362, by decide +kernel, by decide +kernel, Or.inl ⟨mw_359, _, _, _, mw_123⟩, mw_365⟩⟩, List.forall_mem_cons.mpr ⟨⟨RX6, TX6, 2, _, rfl, rfl, mw_366, mw_115, Or.inr ⟨_, "LimpMirror$Pane", mw_667, mw_362, by decide +kernel, by decide +kernel, Or.inl ⟨mw_359, _, _, _, mw_123⟩, mw_367⟩⟩, List.forall_mem_cons.mpr ⟨⟨RX7, TX7, 2, _, rfl, rfl, mw_359, mw_119, Or.inl ⟨mw_667, mw_368⟩⟩, List.forall_mem_cons.mpr ⟨⟨RX9, TX9, 2, _, rfl, rfl, mw_369, mw_146, Or.inr ⟨_, "LimpMirror$Pane", mw_667, mw_362, by decide +kernel, by decide +kernel, Or.inl ⟨mw_359, _, _, _, mw_123⟩, mw_370⟩⟩, List.forall_mem_cons.mpr ⟨⟨RX10, TX10, 2, _, rfl, rfl, mw_359, mw_119, Or.inl ⟨mw_667, mw_371⟩⟩, fun _ h => absurd h List.not_mem_nil⟩⟩⟩⟩⟩⟩, List.forall_mem_cons.mpr ⟨⟨mw_668, mw_320, mw_321, mw_322⟩, List.forall_mem_cons.mpr ⟨List.forall_mem_cons.mpr ⟨⟨RX11, TX11, 16, _, rfl, rfl, mw_669, mw_153, Or.inl ⟨mw_670, mw_671⟩⟩, fun _ h => absurd h List.not_mem_nil⟩, List.forall_mem_cons.mpr ⟨⟨_, rfl, mw_672, mw_673⟩, fun _ h => absurd h List.not_mem_nil⟩⟩⟩⟩⟩⟩⟩⟩⟩⟩⟩⟩⟩⟩⟩⟩⟩⟩⟩⟩⟩⟩⟩⟩⟩⟩⟩⟩⟩⟩⟩⟩⟩⟩⟩⟩⟩⟩⟩⟩⟩⟩⟩⟩⟩⟩⟩⟩⟩⟩⟩⟩⟩⟩⟩⟩⟩⟩⟩⟩⟩⟩⟩⟩⟩⟩⟩⟩⟩⟩⟩⟩⟩⟩⟩⟩⟩⟩⟩⟩⟩⟩⟩⟩⟩
theorem xn_ok_11 : ∀ e ∈ xNL_11, xn_G 11 e := List.forall_mem_cons.mpr ⟨⟨RX0, TX0, 2, tyX0, rfl, mw_1061, mw_1068, mw_65, tyX0_ok, by decide +kernel, rfl⟩, List.forall_mem_cons.mpr ⟨⟨RX7, TX7, 2, tyX7, rfl, mw_1062, mw_1069, mw_119, tyX7_ok, by decide +kernel, rfl⟩, List.forall_mem_cons.mpr ⟨⟨RX2, TX2, 2, tyX2, rfl, mw_1063, mw_1070, mw_89, tyX2_ok, by decide +kernel, rfl⟩, List.forall_mem_cons.mpr ⟨⟨RX8, TX8, 5, tyX8, rfl, mw_1071, mw_1072, mw_127, tyX8_ok, by decide +kernel, rfl⟩, List.forall_mem_cons.mpr ⟨⟨RX1, TX1, 5, tyX1, rfl, mw_1073, mw_1074, mw_78, tyX1_ok, by decide +kernel, rfl⟩, List.forall_mem_cons.mpr ⟨⟨RX6, TX6, 2, tyX6, rfl, mw_1075, mw_1076, mw_115, tyX6_ok, by decide +kernel, rfl⟩, List.forall_mem_cons.mpr ⟨⟨RX5, TX5, 2, tyX5, rfl, mw_1077, mw_1078, mw_111, tyX5_ok, by decide +kernel, rfl⟩, List.forall_mem_cons.mpr ⟨⟨RX9, TX9, 2, tyX9, rfl, mw_1079, mw_1080, mw_146, tyX9_ok, by decide +kernel, rfl⟩, List.forall_mem_cons.mpr ⟨⟨RX10, TX10, 2, tyX10, rfl, mw_1081, mw_1082, mw_150, tyX10_ok, by decide +kernel, rfl⟩, List.forall_mem_cons.mpr ⟨⟨RX4, TX4, 2, tyX4, rfl, mw_1083, mw_1084, mw_107, tyX4_ok, by decide +kernel, rfl⟩, fun _ h => absurd h List.not_mem_nil⟩⟩⟩⟩⟩⟩⟩⟩⟩⟩
theorem xa_ok_11 : ∀ e ∈ xAL_11, xa_G 11 e := List.forall_mem_cons.mpr ⟨⟨_, rfl, mw_1061⟩, List.forall_mem_cons.mpr ⟨⟨_, rfl, mw_1062⟩, List.forall_mem_cons.mpr ⟨⟨_, rfl, mw_1063⟩, fun _ h => absurd h List.not_mem_nil⟩⟩⟩
theorem xk_ok_11 : ∀ e ∈ xKL_11, xk_G 11 e := List.forall_mem_cons.mpr ⟨mw_1088, List.forall_mem_cons.mpr ⟨mw_1090, List.forall_mem_cons.mpr ⟨mw_1091, List.forall_mem_cons.mpr ⟨mw_1092, List.forall_mem_cons.mpr ⟨mw_1093, List.forall_mem_cons.mpr ⟨mw_1099, List.forall_mem_cons.mpr ⟨mw_1100, fun _ h => absurd h List.not_mem_nil⟩⟩⟩⟩⟩⟩⟩
theorem xf_ok_12 : ∀ e ∈ xFL_12, xf_G 12 e := List.forall_mem_cons.mpr ⟨List.forall_mem_cons.mpr ⟨⟨RX12, TX12, 32, rfl, by decide, mw_32, rfl, by decide +kernel, rfl⟩, fun _ h => absurd h List.not_mem_nil⟩, List.forall_mem_cons.mpr ⟨List.forall_mem_cons.mpr ⟨⟨RX12, TX12, 32, rfl, by decide, mw_33, rfl, by decide +kernel, rfl⟩, fun _ h => absurd h List.not_mem_nil⟩, List.forall_mem_cons.mpr ⟨List.forall_mem_cons.mpr ⟨⟨RX12, TX12, 32, rfl, by decide, mw_34, rfl, by decide +kernel, rfl⟩, fun _ h => absurd h List.not_mem_nil⟩, List.forall_mem_cons.mpr ⟨List.forall_mem_cons.mpr ⟨⟨RX12, TX12, 32, rfl, by decide, mw_35, rfl, by decide +kernel, rfl⟩, fun _ h => absurd h List.not_mem_nil⟩, List.forall_mem_cons.mpr ⟨List.forall_mem_cons.mpr ⟨⟨RX12, TX12, 32, rfl, by decide, mw_36, rfl, by decide +kernel, rfl⟩, fun _ h => absurd h List.not_mem_nil⟩, List.forall_mem_cons.mpr ⟨List.forall_mem_cons.mpr ⟨⟨RX12, TX12, 32, rfl, by decide, mw_37, rfl, by decide +kernel, rfl⟩, fun _ h => absurd h List.not_mem_nil⟩, List.forall_mem_cons.mpr ⟨List.forall_mem_cons.mpr ⟨⟨RX12, TX12, 32, rfl, by decide, mw_38, rfl, by decide +kernel, rfl⟩, fun _ h => absurd h List.not_mem_nil⟩, List.forall_mem_cons.mpr ⟨List.forall_mem_cons.mpr ⟨⟨RX12, TX12, 32, rfl, by decide, mw_39, rfl, by decide +kernel, rfl⟩, fun _ h => absurd h List.not_mem_nil⟩, List.forall_mem_cons.mpr ⟨List.forall_mem_cons.mpr ⟨⟨RX12, TX12, 32, rfl, by decide, mw_40, rfl, by decide +kernel, rfl⟩, fun _ h => absurd h List.not_mem_nil⟩, List.forall_mem_cons.mpr ⟨List.forall_mem_cons.mpr ⟨⟨RX12, TX12, 32, rfl, by decide, mw_41, rfl, by decide +kernel, rfl⟩, fun _ h => absurd h List.not_mem_nil⟩, List.forall_mem_cons.mpr ⟨List.forall_mem_cons.mpr ⟨⟨RX12, TX12, 32, rfl, by decide, mw_42, rfl, by decide +kernel, rfl⟩, fun _ h => absurd h List.not_mem_nil⟩, List.forall_mem_cons.mpr ⟨List.forall_mem_cons.mpr ⟨⟨RX12, TX12, 32, rfl, by decide, mw_43, rfl, by decide +kernel, rfl⟩, fun _ h => absurd h List.not_mem_nil⟩, List.forall_mem_cons.mpr ⟨List.forall_mem_cons.mpr ⟨⟨RX12, TX12, 32, rfl, by decide, mw_44, rfl, by decide +kernel, rfl⟩, fun _ h => absurd h List.not_mem_nil⟩, List.forall_mem_cons.mpr ⟨List.forall_mem_cons.mpr ⟨⟨RX12, TX12, 32, rfl, by decide, mw_45, rfl, by decide +kernel, rfl⟩, fun _ h => absurd h List.not_mem_nil⟩, List.forall_mem_cons.mpr ⟨List.forall_mem_cons.mpr ⟨⟨RX12, TX12, 32, rfl, by decide, mw_46, rfl, by decide +kernel, rfl⟩, fun _ h => absurd h List.not_mem_nil⟩, List.forall_mem_cons.mpr ⟨List.forall_mem_cons.mpr ⟨⟨RX12, TX12, 32, rfl, by decide, mw_47, rfl, by decide +kernel, rfl⟩, fun _ h => absurd h List.not_mem_nil⟩, List.forall_mem_cons.mpr ⟨List.forall_mem_cons.mpr ⟨⟨RX12, TX12, 32, rfl, by decide, mw_48, rfl, by decide +kernel, rfl⟩, fun _ h => absurd h List.not_mem_nil⟩, List.forall_mem_cons.mpr ⟨List.forall_mem_cons.mpr ⟨⟨RX12, TX12, 32, rfl, by decide, mw_49, rfl, by decide +kernel, rfl⟩, fun _ h => absurd h List.not_mem_nil⟩, List.forall_mem_cons.mpr ⟨List.forall_mem_cons.mpr ⟨⟨RX12, TX12, 32, rfl, by decide, mw_50, rfl, by decide +kernel, rfl⟩, fun _ h => absurd h List.not_mem_nil⟩, List.forall_mem_cons.mpr ⟨List.forall_mem_cons.mpr ⟨⟨RX12, TX12, 32, rfl, by decide, mw_51, rfl, by decide +kernel, rfl⟩, fun _ h => absurd h List.not_mem_nil⟩, List.forall_mem_cons.mpr ⟨List.forall_mem_cons.mpr ⟨⟨RX12, TX12, 32, rfl, by decide, mw_52, rfl, by decide +kernel, rfl⟩, fun _ h => absurd h List.not_mem_nil⟩, List.forall_mem_cons.mpr ⟨List.forall_mem_cons.mpr ⟨⟨RX12, TX12, 32, rfl, by decide, mw_53, rfl, by decide +kernel, rfl⟩, fun _ h => absurd h List.not_mem_nil⟩, List.forall_mem_cons.mpr ⟨List.forall_mem_cons.mpr ⟨⟨RX12, TX12, 32, rfl, by decide, mw_54, rfl, by decide +kernel, rfl⟩, fun _ h => absurd h List.not_mem_nil⟩, List.forall_mem_cons.mpr ⟨List.forall_mem_cons.mpr ⟨⟨RX12, TX12, 32, rfl, by decide, mw_55, rfl, by decide +kernel, rfl⟩, fun _ h => absurd h List.not_mem_nil⟩, List.forall_mem_cons.mpr ⟨List.forall_mem_cons.mpr ⟨⟨RX12, TX12, 32, rfl, by decide, mw_56, rfl, by decide +kernel, rfl⟩, fun _ h => absurd h List.not_mem_nil⟩, List.forall_mem_cons.mpr ⟨List.forall_mem_cons.mpr ⟨⟨RX12, TX12, 32, rfl, by decide, mw_57, rfl, by decide +kernel, rfl⟩, fun _ h => absurd h List.not_mem_nil⟩, List.forall_mem_cons.mpr ⟨List.forall_mem_cons.mpr ⟨⟨RX12, TX12, 32, rfl, by decide, mw_58, rfl, by decide +kernel, rfl⟩, fun _ h => absurd h List.not_mem_nil⟩, List.forall_mem_cons.mpr ⟨List.forall_mem_cons.mpr ⟨⟨RX12, TX12, 32, rfl, by decide, mw_59, rfl, by decide +kernel, rfl⟩, fun _ h => absurd h List.not_mem_nil⟩, List.forall_mem_cons.mpr ⟨List.forall_mem_cons.mpr ⟨⟨RX12, TX12, 32, rfl, by decide, mw_60, rfl, by decide +kernel, rfl⟩, fun _ h => absurd h List.not_mem_nil⟩, List.forall_mem_cons.mpr ⟨List.forall_mem_cons.mpr ⟨⟨RX12, TX12, 32, rfl, by decide, mw_61, rfl, by decide +kernel, rfl⟩, fun _ h => absurd h List.not_mem_nil⟩, List.forall_mem_cons.mpr ⟨List.forall_mem_cons.mpr ⟨⟨RX12, TX12, 32, rfl, by decide, mw_62, rfl, by decide +kernel, rfl⟩, fun _ h => absurd h List.not_mem_nil⟩, List.forall_mem_cons.mpr ⟨List.forall_mem_cons.mpr ⟨⟨RX12, TX12, 32, rfl, by decide, mw_63, rfl, by decide +kernel, rfl⟩, fun _ h => absurd h List.not_mem_nil⟩, fun _ h => absurd h List.not_mem_nil⟩⟩⟩⟩⟩⟩⟩⟩⟩⟩⟩⟩⟩⟩⟩⟩⟩⟩⟩⟩⟩⟩⟩⟩⟩⟩⟩⟩⟩⟩⟩⟩
theorem xc_ok_12 : ∀ e ∈ xCL_12, xc_G 12 e := List.forall_mem_cons.mpr ⟨⟨mw_674, mw_346, mw_347⟩, List.forall_mem_cons.mpr ⟨⟨_, rfl, mw_675, mw_676⟩, List.forall_mem_cons.mpr ⟨⟨_, rfl, mw_677, mw_678⟩, List.forall_mem_cons.mpr ⟨List.forall_mem_cons.mpr ⟨⟨RX12, TX12, 32, _, rfl, rfl, mw_679, mw_227, Or.inl ⟨mw_680, mw_681⟩⟩, fun _ h => absurd h List.not_mem_nil⟩, List.forall_mem_cons.mpr ⟨List.forall_mem_cons.mpr ⟨⟨RX12, TX12, 32, _, rfl, rfl, mw_682, mw_227, Or.inl ⟨mw_683, mw_684⟩⟩, fun _ h => absurd h List.not_mem_nil⟩, List.forall_mem_cons.mpr ⟨List.forall_mem_cons.mpr ⟨⟨RX12, TX12, 32, _, rfl, rfl, mw_685, mw_227, Or.inl ⟨mw_686, mw_687⟩⟩, fun _ h => absurd h List.not_mem_nil⟩, List.forall_mem_cons.mpr ⟨⟨_, rfl, mw_688, mw_689⟩, List.forall_mem_cons.mpr ⟨⟨_, rfl, mw_690, mw_691⟩, List.forall_mem_cons.mpr ⟨List.forall_mem_cons.mpr ⟨⟨RX12, TX12, 32, _, rfl, rfl, mw_692, mw_227, Or.inl ⟨mw_693, mw_694⟩⟩, fun _ h => absurd h List.not_mem_nil⟩, List.forall_mem_cons.mpr ⟨List.forall_mem_cons.mpr ⟨⟨RX12, TX12, 32, _, rfl, rfl, mw_695, mw_227, Or.inl ⟨mw_696, mw_697⟩⟩, fun _ h => absurd h List.not_mem_nil⟩, List.forall_mem_cons.mpr ⟨List.forall_mem_cons.mpr ⟨⟨RX12, TX12, 32, _, rfl, rfl, mw_698, mw_227, Or.inl ⟨mw_699, mw_700⟩⟩, fun _ h => absurd h List.not_mem_nil⟩, List.forall_mem_cons.mpr ⟨⟨_, rfl, mw_701, mw_702⟩, List.forall_mem_cons.mpr ⟨List.forall_mem_cons.mpr ⟨⟨RX12, TX12, 32, _, rfl, rfl, mw_703, mw_227, Or.inl ⟨mw_704, mw_705⟩⟩, fun _ h => absurd h List.not_mem_nil⟩, List.forall_mem_cons.mpr ⟨List.forall_mem_cons.mpr ⟨⟨RX12, TX12, 32, _, rfl, rfl, mw_706, mw_227, Or.inl ⟨mw_707, mw_708⟩⟩, fun _ h => absurd h List.not_mem_nil⟩, List.forall_mem_cons.mpr ⟨List.forall_mem_cons.mpr ⟨⟨RX12, TX12, 32, _, rfl, rfl, mw_709, mw_227, Or.inl ⟨mw_710, mw_711⟩⟩, fun _ h => absurd h List.not_mem_nil⟩, List.forall_mem_cons.mpr ⟨List.forall_mem_cons.mpr ⟨⟨RX12, TX12, 32, _, rfl, rfl, mw_712, mw_227, Or.inl ⟨mw_713, mw_714⟩⟩, fun _ h => absurd h List.not_mem_nil⟩, List.forall_mem_cons.mpr ⟨⟨_, rfl, mw_715, mw_716⟩, List.forall_mem_cons.mpr ⟨List.forall_mem_cons.mpr ⟨⟨RX12, TX12, 32, _, rfl, rfl, mw_717, mw_227, Or.inl ⟨mw_718, mw_719⟩⟩, fun _ h => absurd h List.not_mem_nil⟩, List.forall_mem_cons.mpr ⟨List.forall_mem_cons.mpr ⟨⟨RX12, TX12, 32, _, rfl, rfl, mw_720, mw_227, Or.inl ⟨mw_721, mw_722⟩⟩, fun _ h => absurd h List.not_mem_nil⟩, List.forall_mem_cons.mpr ⟨List.forall_mem_cons.mpr ⟨⟨RX12, TX12, 32, _, rfl, rfl, mw_723, mw_227, Or.inl ⟨mw_724, mw_725⟩⟩, fun _ h => absurd h List.not_mem_nil⟩, List.forall_mem_cons.mpr ⟨List.forall_mem_cons.mpr ⟨⟨RX12, TX12, 32, _, rfl, rfl, mw_726, mw_227, Or.inl ⟨mw_727, mw_728⟩⟩, fun _ h => absurd h List.not_mem_nil⟩, List.forall_mem_cons.mpr ⟨List.forall_mem_cons.mpr ⟨⟨RX12, TX12, 32, _, rfl, rfl, mw_729, mw_227, Or.inl ⟨mw_730, mw_731⟩⟩, fun _ h => absurd h List.not_mem_nil⟩, List.forall_mem_cons.mpr ⟨List.forall_mem_cons.mpr ⟨⟨RX12, TX12, 32, _, rfl, rfl, mw_732, mw_227, Or.inl ⟨mw_733, mw_734⟩⟩, fun _ h => absurd h List.not_mem_nil⟩, List.forall_mem_cons.mpr ⟨⟨_, rfl, mw_735, mw_736⟩, List.forall_mem_cons.mpr ⟨⟨_, rfl, mw_737, mw_738⟩, List.forall_mem_cons.mpr ⟨List.forall_mem_cons.mpr ⟨⟨RX12, TX12, 32, _, rfl, rfl, mw_739, mw_227, Or.inl ⟨mw_740, mw_741⟩⟩, fun _ h => absurd h List.not_mem_nil⟩, List.forall_mem_cons.mpr ⟨List.forall_mem_cons.mpr ⟨⟨RX12, TX12, 32, _, rfl, rfl, mw_742, mw_227, Or.inl ⟨mw_743, mw_744⟩⟩, fun _ h => absurd h List.not_mem_nil⟩, List.forall_mem_cons.mpr ⟨List.forall_mem_cons.mpr ⟨⟨RX12, TX12, 32, _, rfl, rfl, mw_745, mw_227, Or.inl ⟨mw_746, mw_747⟩⟩, fun _ h => absurd h List.not_mem_nil⟩, List.forall_mem_cons.mpr ⟨List.forall_mem_cons.mpr ⟨⟨RX12, TX12, 32, _, rfl, rfl, mw_748, mw_227, Or.inl ⟨mw_749, mw_750⟩⟩, fun _ h => absurd h List.not_mem_nil⟩, List.forall_mem_cons.mpr ⟨List.forall_mem_cons.mpr ⟨⟨RX12, TX12, 32, _, rfl, rfl, mw_751, mw_227, Or.inl ⟨mw_752, mw_753⟩⟩, fun _ h => absurd h List.not_mem_nil⟩, List.forall_mem_cons.mpr ⟨List.forall_mem_cons.mpr ⟨⟨RX12, TX12, 32, _, rfl, rfl, mw_754, mw_227, Or.inl ⟨mw_755, mw_756⟩⟩, fun _ h => absurd h List.not_mem_nil⟩, List.forall_mem_cons.mpr ⟨⟨_, rfl, mw_757, mw_758⟩, List.forall_mem_cons.mpr ⟨List.forall_mem_cons.mpr ⟨⟨RX12, TX12, 32, _, rfl, rfl, mw_759, mw_227, Or.inl ⟨mw_760, mw_761⟩⟩, fun _ h => absurd h List.not_mem_nil⟩, List.forall_mem_cons.mpr ⟨List.forall_mem_cons.mpr ⟨⟨RX12, TX12, 32, _, rfl, rfl, mw_762, mw_227, Or.inl ⟨mw_763, mw_764⟩⟩, fun _ h => absurd h List.not_mem_nil⟩, List.forall_mem_cons.mpr ⟨List.forall_mem_cons.mpr ⟨⟨RX12, TX12, 32, _, rfl, rfl, mw_765, mw_227, Or.inl ⟨mw_766, mw_767⟩⟩, fun _ h => absurd h List.not_mem_nil⟩, List.forall_mem_cons.mpr ⟨List.forall_mem_cons.mpr ⟨⟨RX12, TX12, 32, _, rfl, rfl, mw_768, mw_227, Or.inl ⟨mw_769, mw_770⟩⟩, fun _ h => absurd h List.not_mem_nil⟩, List.forall_mem_cons.mpr ⟨⟨_, rfl, mw_771, mw_772⟩, List.forall_mem_cons.mpr ⟨⟨_, rfl, mw_773, mw_774⟩, List.forall_mem_cons.mpr ⟨List.forall_mem_cons.mpr ⟨⟨RX12, TX12, 32, _, rfl, rfl, mw_775, mw_227, Or.inl ⟨mw_776, mw_777⟩⟩, fun _ h => absurd h List.not_mem_nil⟩, List.forall_mem_cons.mpr ⟨List.forall_mem_cons.mpr ⟨⟨RX12, TX12, 32, _, rfl, rfl, mw_778, mw_227, Or.inl ⟨mw_779, mw_780⟩⟩, fun _ h => absurd h List.not_mem_nil⟩, List.forall_mem_cons.mpr ⟨List.forall_mem_cons.mpr ⟨⟨RX12, TX12, 32, _, rfl, rfl, mw_781, mw_227, Or.inl ⟨mw_782, mw_783⟩⟩, fun _ h => absurd h List.not_mem_nil⟩, List.forall_mem_cons.mpr ⟨List.forall_mem_cons.mpr ⟨⟨RX12, TX12, 32, _, rfl, rfl, mw_784, mw_227, Or.inl ⟨mw_785, mw_786⟩⟩, fun _ h => absurd h List.not_mem_nil⟩, List.forall_mem_cons.mpr ⟨⟨_, rfl, mw_787, mw_788⟩, List.forall_mem_cons.mpr ⟨List.forall_mem_cons.mpr ⟨⟨RX12, TX12, 32, _, rfl, rfl, mw_789, mw_227, Or.inl ⟨mw_790, mw_791⟩⟩, fun _ h => absurd h List.not_mem_nil⟩, List.forall_mem_cons.mpr ⟨List.forall_mem_cons.mpr ⟨⟨RX12, TX12, 32, _, rfl, rfl, mw_792, mw_227, Or.inl ⟨mw_793, mw_794⟩⟩, fun _ h => absurd h List.not_mem_nil⟩, fun _ h => absurd h List.not_mem_nil⟩⟩⟩⟩⟩⟩⟩⟩⟩⟩⟩⟩⟩⟩⟩⟩⟩⟩⟩⟩⟩⟩⟩⟩⟩⟩⟩⟩⟩⟩⟩⟩⟩⟩⟩⟩⟩⟩⟩⟩⟩⟩⟩⟩⟩
theorem xn_ok_12 : ∀ e ∈ xNL_12, xn_G 12 e := fun _ h => absurd h List.not_mem_nil
theorem xa_ok_12 : ∀ e ∈ xAL_12, xa_G 12 e := fun _ h => absurd h List.not_mem_nil
theorem xk_ok_12 : ∀ e ∈ xKL_12, xk_G 12 e := List.forall_mem_cons.mpr ⟨mw_1089, List.forall_mem_cons.mpr ⟨mw_1094, List.forall_mem_cons.mpr ⟨mw_1095, List.forall_mem_cons.mpr ⟨mw_1096, List.forall_mem_cons.mpr ⟨mw_1097, List.forall_mem_cons.mpr ⟨mw_1098, List.forall_mem_cons.mpr ⟨mw_1101, List.forall_mem_cons.mpr ⟨mw_1102, fun _ h => absurd h List.not_mem_nil⟩⟩⟩⟩⟩⟩⟩⟩
theorem xf_ok_13 : ∀ e ∈ xFL_13, xf_G 13 e := fun _ h => absurd h List.not_mem_nil
theorem xc_ok_13 : ∀ e ∈ xCL_13, xc_G 13 e := List.forall_mem_cons.mpr ⟨⟨_, rfl, mw_795, mw_796, rfl, rfl⟩, List.forall_mem_cons.mpr ⟨⟨_, rfl, mw_797, mw_798, rfl, rfl⟩, List.forall_mem_cons.mpr ⟨List.forall_mem_cons.mpr ⟨⟨RX11, TX11, 16, _, rfl, rfl, mw_799, mw_153, Or.inl ⟨mw_800, mw_801⟩⟩, fun _ h => absurd h List.not_mem_nil⟩, List.forall_mem_cons.mpr ⟨List.forall_mem_cons.mpr ⟨⟨RX12, TX12, 32, _, rfl, rfl, mw_802, mw_227, Or.inl ⟨mw_803, mw_804⟩⟩, fun _ h => absurd h List.not_mem_nil⟩, List.forall_mem_cons.mpr ⟨List.forall_mem_cons.mpr ⟨⟨RX11, TX11, 16, _, rfl, rfl, mw_805, mw_153, Or.inl ⟨mw_806, mw_807⟩⟩, fun _ h => absurd h List.not_mem_nil⟩, List.forall_mem_cons.mpr ⟨List.forall_mem_cons.mpr ⟨⟨RX12, TX12, 32, _, rfl, rfl, mw_808, mw_227, Or.inl ⟨mw_809, mw_810⟩⟩, fun _ h => absurd h List.not_mem_nil⟩, List.forall_mem_cons.mpr ⟨List.forall_mem_cons.mpr ⟨⟨RX11, TX11, 16, _, rfl, rfl, mw_811, mw_153, Or.inl ⟨mw_812, mw_813⟩⟩, fun _ h => absurd h List.not_mem_nil⟩, List.forall_mem_cons.mpr ⟨List.forall_mem_cons.mpr ⟨⟨RX12, TX12, 32, _, rfl, rfl, mw_814, mw_227, Or.inl ⟨mw_815, mw_816⟩⟩, fun _ h => absurd h List.not_mem_nil⟩, List.forall_mem_cons.mpr ⟨List.forall_mem_cons.mpr ⟨⟨RX11, TX11, 16, _, rfl, rfl, mw_817, mw_153, Or.inl ⟨mw_818, mw_819⟩⟩, fun _ h => absurd h List.not_mem_nil⟩, List.forall_mem_cons.mpr ⟨List.forall_mem_cons.mpr ⟨⟨RX12, TX12, 32, _, rfl, rfl, mw_820, mw_227, Or.inl ⟨mw_821, mw_822⟩⟩, fun _ h => absurd h List.not_mem_nil⟩, List.forall_mem_cons.mpr ⟨List.forall_mem_cons.mpr ⟨⟨RX11, TX11, 16, _, rfl, rfl, mw_823, mw_153, Or.inl ⟨mw_824, mw_825⟩⟩, fun _ h => absurd h List.not_mem_nil⟩, List.forall_mem_cons.mpr ⟨List.forall_mem_cons.mpr ⟨⟨RX12, TX12, 32, _, rfl, rfl, mw_826, mw_227, Or.inl ⟨mw_827, mw_828⟩⟩, fun _ h => absurd h List.not_mem_nil⟩, List.forall_mem_cons.mpr ⟨List.forall_mem_cons.mpr ⟨⟨RX11, TX11, 16, _, rfl, rfl, mw_829, mw_153, Or.inl ⟨mw_830, mw_831⟩⟩, fun _ h => absurd h List.not_mem_nil⟩, List.forall_mem_cons.mpr ⟨List.forall_mem_cons.mpr ⟨⟨RX12, TX12, 32, _, rfl, rfl, mw_832, mw_227, Or.inl ⟨mw_833, mw_834⟩⟩, fun _ h => absurd h List.not_mem_nil⟩, List.forall_mem_cons.mpr ⟨List.forall_mem_cons.mpr ⟨⟨RX11, TX11, 16, _, rfl, rfl, mw_835, mw_153, Or.inl ⟨mw_836, mw_837⟩⟩, fun _ h => absurd h List.not_mem_nil⟩, List.forall_mem_cons.mpr ⟨List.forall_mem_cons.mpr ⟨⟨RX12, TX12, 32, _, rfl, rfl, mw_838, mw_227, Or.inl ⟨mw_839, mw_840⟩⟩, fun _ h => absurd h List.not_mem_nil⟩, List.forall_mem_cons.mpr ⟨List.forall_mem_cons.mpr ⟨⟨RX11, TX11, 16, _, rfl, rfl, mw_841, mw_153, Or.inl ⟨mw_842, mw_843⟩⟩, fun _ h => absurd h List.not_mem_nil⟩, List.forall_mem_cons.mpr ⟨List.forall_mem_cons.mpr ⟨⟨RX12, TX12, 32, _, rfl, rfl, mw_844, mw_227, Or.inl ⟨mw_845, mw_846⟩⟩, fun _ h => absurd h List.not_mem_nil⟩, List.forall_mem_cons.mpr ⟨List.forall_mem_cons.mpr ⟨⟨RX11, TX11, 16, _, rfl, rfl, mw_847, mw_153, Or.inl ⟨mw_848, mw_849⟩⟩, fun _ h => absurd h List.not_mem_nil⟩, List.forall_mem_cons.mpr ⟨List.forall_mem_cons.mpr ⟨⟨RX12, TX12, 32, _, rfl, rfl, mw_850, mw_227, Or.inl ⟨mw_851, mw_852⟩⟩, fun _ h => absurd h List.not_mem_nil⟩, List.forall_mem_cons.mpr ⟨List.forall_mem_cons.mpr ⟨⟨RX11, TX11, 16, _, rfl, rfl, mw_853, mw_153, Or.inl ⟨mw_854, mw_855⟩⟩, fun _ h => absurd h List.not_mem_nil⟩, List.forall_mem_cons.mpr ⟨List.forall_mem_cons.mpr ⟨⟨RX12, TX12, 32, _, rfl, rfl, mw_856, mw_227, Or.inl ⟨mw_857, mw_858⟩⟩, fun _ h => absurd h List.not_mem_nil⟩, List.forall_mem_cons.mpr ⟨List.forall_mem_cons.mpr ⟨⟨RX11, TX11, 16, _, rfl, rfl, mw_859, mw_153, Or.inl ⟨mw_860, mw_861⟩⟩, fun _ h => absurd h List.not_mem_nil⟩, List.forall_mem_cons.mpr ⟨List.forall_mem_cons.mpr ⟨⟨RX12, TX12, 32, _, rfl, rfl, mw_862, mw_227, Or.inl ⟨mw_863, mw_864⟩⟩, fun _ h => absurd h List.not_mem_nil⟩, List.forall_mem_cons.mpr ⟨List.forall_mem_cons.mpr ⟨⟨RX11, TX11, 16, _, rfl, rfl, mw_865, mw_153, Or.inl ⟨mw_866, mw_867⟩⟩, fun _ h => absurd h List.not_mem_nil⟩, List.forall_mem_cons.mpr ⟨List.forall_mem_cons.mpr ⟨⟨RX12, TX12, 32, _, rfl, rfl, mw_868, mw_227, Or.inl ⟨mw_869, mw_870⟩⟩, fun _ h => absurd h List.not_mem_nil⟩, List.forall_mem_cons.mpr ⟨List.forall_mem_cons.mpr ⟨⟨RX11, TX11, 16, _, rfl, rfl, mw_871, mw_153, Or.inl ⟨mw_872, mw_873⟩⟩, fun _ h => absurd h List.not_mem_nil⟩, List.forall_mem_cons.mpr ⟨List.forall_mem_cons.mpr ⟨⟨RX12, TX12, 32, _, rfl, rfl, mw_874, mw_227, Or.inl ⟨mw_875, mw_876⟩⟩, fun _ h => absurd h List.not_mem_nil⟩, List.forall_mem_cons.mpr ⟨List.forall_mem_cons.mpr ⟨⟨RX11, TX11, 16, _, rfl, rfl, mw_877, mw_153, Or.inl ⟨mw_878, mw_879⟩⟩, fun _ h => absurd h List.not_mem_nil⟩, List.forall_mem_cons.mpr ⟨List.forall_mem_cons.mpr ⟨⟨RX12, TX12, 32, _, rfl, rfl, mw_880, mw_227, Or.inl ⟨mw_881, mw_882⟩⟩, fun _ h => absurd h List.not_mem_nil⟩, List.forall_mem_cons.mpr ⟨List.forall_mem_cons.mpr ⟨⟨RX11, TX11, 16, _, rfl, rfl, mw_883, mw_153, Or.inl ⟨mw_884, mw_885⟩⟩, fun _ h => absurd h List.not_mem_nil⟩, List.forall_mem_cons.mpr ⟨List.forall_mem_cons.mpr ⟨⟨RX12, TX12, 32, _, rfl, rfl, mw_886, mw_227, Or.inl ⟨mw_887, mw_888⟩⟩, fun _ h => absurd h List.not_mem_nil⟩, List.forall_mem_cons.mpr ⟨List.forall_mem_cons.mpr ⟨⟨RX11, TX11, 16, _, rfl, rfl, mw_889, mw_153, Or.inl ⟨mw_890, mw_891⟩⟩, fun _ h => absurd h List.not_mem_nil⟩, List.forall_mem_cons.mpr ⟨List.forall_mem_cons.mpr ⟨⟨RX12, TX12, 32, _, rfl, rfl, mw_892, mw_227, Or.inl ⟨mw_893, mw_894⟩⟩, fun _ h => absurd h List.not_mem_nil⟩, List.forall_mem_cons.mpr ⟨List.forall_mem_cons.mpr ⟨⟨RX11, TX11, 16, _, rfl, rfl, mw_895, mw_153, Or.inl ⟨mw_896, mw_897⟩⟩, fun _ h => absurd h List.not_mem_nil⟩, List.forall_mem_cons.mpr ⟨List.forall_mem_cons.mpr ⟨⟨RX12, TX12, 32, _, rfl, rfl, mw_898, mw_227, Or.inl ⟨mw_899, mw_900⟩⟩, fun _ h => absurd h List.not_mem_nil⟩, List.forall_mem_cons.mpr ⟨List.forall_mem_cons.mpr ⟨⟨RX11, TX11, 16, _, rfl, rfl, mw_901, mw_153, Or.inl ⟨mw_902, mw_903⟩⟩, fun _ h => absurd h List.not_mem_nil⟩, List.forall_mem_cons.mpr ⟨List.forall_mem_cons.mpr ⟨⟨RX12, TX12, 32, _, rfl, rfl, mw_904, mw_227, Or.inl ⟨mw_905, mw_906⟩⟩, fun _ h => absurd h List.not_mem_nil⟩, List.forall_mem_cons.mpr ⟨List.forall_mem_cons.mpr ⟨⟨RX11, TX11, 16, _, rfl, rfl, mw_907, mw_153, Or.inl ⟨mw_908, mw_909⟩⟩, fun _ h => absurd h List.not_mem_nil⟩, List.forall_mem_cons.mpr ⟨List.forall_mem_cons.mpr ⟨⟨RX12, TX12, 32, _, rfl, rfl, mw_910, mw_227, Or.inl ⟨mw_911, mw_912⟩⟩, fun _ h => absurd h List.not_mem_nil⟩, List.forall_mem_cons.mpr ⟨List.forall_mem_cons.mpr ⟨⟨RX11, TX11, 16, _, rfl, rfl, mw_913, mw_153, Or.inl ⟨mw_914, mw_915⟩⟩, fun _ h => absurd h List.not_mem_nil⟩, List.forall_mem_cons.mpr ⟨List.forall_mem_cons.mpr ⟨⟨RX12, TX12, 32, _, rfl, rfl, mw_916, mw_227, Or.inl ⟨mw_917, mw_918⟩⟩, fun _ h => absurd h List.not_mem_nil⟩, List.forall_mem_cons.mpr ⟨List.forall_mem_cons.mpr ⟨⟨RX11, TX11, 16, _, rfl, rfl, mw_919, mw_153, Or.inl ⟨mw_920, mw_921⟩⟩, fun _ h => absurd h List.not_mem_nil⟩, List.forall_mem_cons.mpr ⟨List.forall_mem_cons.mpr ⟨⟨RX12, TX12, 32, _, rfl, rfl, mw_922, mw_227, Or.inl ⟨mw_923, mw_924⟩⟩, fun _ h => absurd h List.not_mem_nil⟩, List.forall_mem_cons.mpr ⟨List.forall_mem_cons.mpr ⟨⟨RX11, TX11, 16, _, rfl, rfl, mw_925, mw_153, Or.inl ⟨mw_926, mw_927⟩⟩, fun _ h => absurd h List.not_mem_nil⟩, List.forall_mem_cons.mpr ⟨List.forall_mem_cons.mpr ⟨⟨RX12, TX12, 32, _, rfl, rfl, mw_928, mw_227, Or.inl ⟨mw_929, mw_930⟩⟩, fun _ h => absurd h List.not_mem_nil⟩, List.forall_mem_cons.mpr ⟨List.forall_mem_cons.mpr ⟨⟨RX11, TX11, 16, _, rfl, rfl, mw_931, mw_153, Or.inl ⟨mw_932, mw_933⟩⟩, fun _ h => absurd h List.not_mem_nil⟩, List.forall_mem_cons.mpr ⟨List.forall_mem_cons.mpr ⟨⟨RX12, TX12, 32, _, rfl, rfl, mw_934, mw_227, Or.inl ⟨mw_935, mw_936⟩⟩, fun _ h => absurd h List.not_mem_nil⟩, List.forall_mem_cons.mpr ⟨List.forall_mem_cons.mpr ⟨⟨RX11, TX11, 16, _, rfl, rfl, mw_937, mw_153, Or.inl ⟨mw_938, mw_939⟩⟩, fun _ h => absurd h List.not_mem_nil⟩, List.forall_mem_cons.mpr ⟨List.forall_mem_cons.mpr ⟨⟨RX12, TX12, 32, _, rfl, rfl, mw_940, mw_227, Or.inl ⟨mw_941, mw_942⟩⟩, fun _ h => absurd h List.not_mem_nil⟩, List.forall_mem_cons.mpr ⟨List.forall_mem_cons.mpr ⟨⟨RX11, TX11, 16, _, rfl, rfl, mw_943, mw_153, Or.inl ⟨mw_944, mw_945⟩⟩, fun _ h => absurd h List.not_mem_nil⟩, List.forall_mem_cons.mpr ⟨List.forall_mem_cons.mpr ⟨⟨RX12, TX12, 32, _, rfl, rfl, mw_946, mw_227, Or.inl ⟨mw_947, mw_948⟩⟩, fun _ h => absurd h List.not_mem_nil⟩, List.forall_mem_cons.mpr ⟨List.forall_mem_cons.mpr ⟨⟨RX11, TX11, 16, _, rfl, rfl, mw_949, mw_153, Or.inl ⟨mw_950, mw_951⟩⟩, fun _ h => absurd h List.not_mem_nil⟩, List.forall_mem_cons.mpr ⟨List.forall_mem_cons.mpr ⟨⟨RX12, TX12, 32, _, rfl, rfl, mw_952, mw_227, Or.inl ⟨mw_953, mw_954⟩⟩, fun _ h => absurd h List.not_mem_nil⟩, List.forall_mem_cons.mpr ⟨List.forall_mem_cons.mpr ⟨⟨RX11, TX11, 16, _, rfl, rfl, mw_955, mw_153, Or.inl ⟨mw_956, mw_957⟩⟩, fun _ h => absurd h List.not_mem_nil⟩, List.forall_mem_cons.mpr ⟨List.forall_mem_cons.mpr ⟨⟨RX12, TX12, 32, _, rfl, rfl, mw_958, mw_227, Or.inl ⟨mw_959, mw_960⟩⟩, fun _ h => absurd h List.not_mem_nil⟩, List.forall_mem_cons.mpr ⟨List.forall_mem_cons.mpr ⟨⟨RX11, TX11, 16, _, rfl, rfl, mw_961, mw_153, Or.inl ⟨mw_962, mw_963⟩⟩, fun _ h => absurd h List.not_mem_nil⟩, List.forall_mem_cons.mpr ⟨List.forall_mem_cons.mpr ⟨⟨RX12, TX12, 32, _, rfl, rfl, mw_964, mw_227, Or.inl ⟨mw_965, mw_966⟩⟩, fun _ h => absurd h List.not_mem_nil⟩, List.forall_mem_cons.mpr ⟨List.forall_mem_cons.mpr ⟨⟨RX11, TX11, 16, _, rfl, rfl, mw_967, mw_153, Or.inl ⟨mw_968, mw_969⟩⟩, fun _ h => absurd h List.not_mem_nil⟩, List.forall_mem_cons.mpr ⟨List.forall_mem_cons.mpr ⟨⟨RX12, TX12, 32, _, rfl, rfl, mw_970, mw_227, Or.inl ⟨mw_971, mw_972⟩⟩, fun _ h => absurd h List.not_mem_nil⟩, List.forall_mem_cons.mpr ⟨List.forall_mem_cons.mpr ⟨⟨RX11, TX11, 16, _, rfl, rfl, mw_973, mw_153, Or.inl ⟨mw_974, mw_975⟩⟩, fun _ h => absurd h List.not_mem_nil⟩, List.forall_mem_cons.mpr ⟨List.forall_mem_cons.mpr ⟨⟨RX12, TX12, 32, _, rfl, rfl, mw_976, mw_227, Or.inl ⟨mw_977, mw_978⟩⟩, fun _ h => absurd h List.not_mem_nil⟩, List.forall_mem_cons.mpr ⟨List.forall_mem_cons.mpr ⟨⟨RX11, TX11, 16, _, rfl, rfl, mw_979, mw_153, Or.inl ⟨mw_980, mw_981⟩⟩, fun _ h => absurd h List.not_mem_nil⟩, List.forall_mem_cons.mpr ⟨List.forall_mem_cons.mpr ⟨⟨RX12, TX12, 32, _, rfl, rfl, mw_982, mw_227, Or.inl ⟨mw_983, mw_984⟩⟩, fun _ h => absurd h List.not_mem_nil⟩, List.forall_mem_cons.mpr ⟨List.forall_mem_cons.mpr ⟨⟨RX11, TX11, 16, _, rfl, rfl, mw_985, mw_153, Or.inl ⟨mw_986, mw_987⟩⟩, fun _ h => absurd h List.not_mem_nil⟩, List.forall_mem_cons.mpr ⟨List.forall_mem_cons.mpr ⟨⟨RX12, TX12, 32, _, rfl, rfl, mw_988, mw_227, Or.inl ⟨mw_989, mw_990⟩⟩, fun _ h => absurd h List.not_mem_nil⟩, List.forall_mem_cons.mpr ⟨List.forall_mem_cons.mpr ⟨⟨RX11, TX11, 16, _, rfl, rfl, mw_991, mw_153, Or.inl ⟨mw_992, mw_993⟩⟩, fun _ h => absurd h List.not_mem_nil⟩, List.forall_mem_cons.mpr ⟨List.forall_mem_cons.mpr ⟨⟨RX12, TX12, 32, _, rfl, rfl, mw_994, mw_227, Or.inl ⟨mw_995, mw_996⟩⟩, fun _ h => absurd h List.not_mem_nil⟩, List.forall_mem_cons.mpr ⟨List.forall_mem_cons.mpr ⟨⟨RX11, TX11, 16, _, rfl, rfl, mw_997, mw_153, Or.inl ⟨mw_998, mw_999⟩⟩, fun _ h => absurd h List.not_mem_nil⟩, List.forall_mem_cons.mpr ⟨List.forall_mem_cons.mpr ⟨⟨RX12, TX12, 32, _, rfl, rfl, mw_1000, mw_227, Or.inl ⟨mw_1001, mw_1002⟩⟩, fun _ h => absurd h List.not_mem_nil⟩, List.forall_mem_cons.mpr ⟨List.forall_mem_cons.mpr ⟨⟨RX11, TX11, 16, _, rfl, rfl, mw_1003, mw_153, Or.inl ⟨mw_1004, mw_1005⟩⟩, fun _ h => absurd h List.not_mem_nil⟩, List.forall_mem_cons.mpr ⟨List.forall_mem_cons.mpr ⟨⟨RX12, TX12, 32, _, rfl, rfl, mw_1006, mw_227, Or.inl ⟨mw_1007, mw_1008⟩⟩, fun _ h => absurd h List.not_mem_nil⟩, List.forall_mem_cons.mpr ⟨List.forall_mem_cons.mpr ⟨⟨RX11, TX11, 16, _, rfl, rfl, mw_1009, mw_153, Or.inl ⟨mw_1010, mw_1011⟩⟩, fun _ h => absurd h List.not_mem_nil⟩, List.forall_mem_cons.mpr ⟨List.forall_mem_cons.mpr ⟨⟨RX12, TX12, 32, _, rfl, rfl, mw_1012, mw_227, Or.inl ⟨mw_1013, mw_1014⟩⟩, fun _ h => absurd h List.not_mem_nil⟩, List.forall_mem_cons.mpr ⟨List.forall_mem_cons.mpr ⟨⟨RX11, TX11, 16, _, rfl, rfl, mw_1015, mw_153, Or.inl ⟨mw_1016, mw_1017⟩⟩, fun _ h => absurd h List.not_mem_nil⟩, List.forall_mem_cons.mpr ⟨List.forall_mem_cons.mpr ⟨⟨RX12, TX12, 32, _, rfl, rfl, mw_1018, mw_227, Or.inl ⟨mw_1019, mw_1020⟩⟩, fun _ h => absurd h List.not_mem_nil⟩, List.forall_mem_cons.mpr ⟨List.forall_mem_cons.mpr ⟨⟨RX11, TX11, 16, _, rfl, rfl, mw_1021, mw_153, Or.inl ⟨mw_1022, mw_1023⟩⟩, fun _ h => absurd h List.not_mem_nil⟩, List.forall_mem_cons.mpr ⟨List.forall_mem_cons.mpr ⟨⟨RX12, TX12, 32, _, rfl, rfl, mw_1024, mw_227, Or.inl ⟨mw_1025, mw_1026⟩⟩, fun _ h => absurd h List.not_mem_nil⟩, List.forall_mem_cons.mpr ⟨List.forall_mem_cons.mpr ⟨⟨RX11, TX11, 16, _, rfl, rfl, mw_1027, mw_153, Or.inl ⟨mw_1028, mw_1029⟩⟩, fun _ h => absurd h List.not_mem_nil⟩, List.forall_mem_cons.mpr ⟨List.forall_mem_cons.mpr ⟨⟨RX12, TX12, 32, _, rfl, rfl, mw_1030, mw_227, Or.inl ⟨mw_1031, mw_1032⟩⟩, fun _ h => absurd h List.not_mem_nil⟩, List.forall_mem_cons.mpr ⟨List.forall_mem_cons.mpr ⟨⟨RX11, TX11, 16, _, rfl, rfl, mw_1033, mw_153, Or.inl ⟨mw_1034, mw_1035⟩⟩, fun _ h => absurd h List.not_mem_nil⟩, List.forall_mem_cons.mpr ⟨List.forall_mem_cons.mpr ⟨⟨RX12, TX12, 32, _, rfl, rfl, mw_1036, mw_227, Or.inl ⟨mw_1037, mw_1038⟩⟩, fun _ h => absurd h List.not_mem_nil⟩, List.forall_mem_cons.mpr ⟨List.forall_mem_cons.mpr ⟨⟨RX11, TX11, 16, _, rfl, rfl, mw_631, mw_153, Or.inl ⟨mw_1039, mw_633⟩⟩, fun _ h => absurd h List.not_mem_nil⟩, List.forall_mem_cons.mpr ⟨List.forall_mem_cons.mpr ⟨⟨RX12, TX12, 32, _, rfl, rfl, mw_1040, mw_227, Or.inl ⟨mw_1041, mw_1042⟩⟩, fun _ h => absurd h List.not_mem_nil⟩, List.forall_mem_cons.mpr ⟨List.forall_mem_cons.mpr ⟨⟨RX11, TX11, 16, _, rfl, rfl, mw_1043, mw_153, Or.inl ⟨mw_1044, mw_1045⟩⟩, fun _ h => absurd h List.not_mem_nil⟩, List.forall_mem_cons.mpr ⟨List.forall_mem_cons.mpr ⟨⟨RX12, TX12, 32, _, rfl, rfl, mw_1046, mw_227, Or.inl ⟨mw_1047, mw_1048⟩⟩, fun _ h => absurd h List.not_mem_nil⟩, List.forall_mem_cons.mpr ⟨List.forall_mem_cons.mpr ⟨⟨RX11, TX11, 16, _, rfl, rfl, mw_1049, mw_153, Or.inl ⟨mw_1050, mw_1051⟩⟩, fun _ h => absurd h List.not_mem_nil⟩, List.forall_mem_cons.mpr ⟨List.forall_mem_cons.mpr ⟨⟨RX12, TX12, 32, _, rfl, rfl, mw_1052, mw_227, Or.inl ⟨mw_1053, mw_1054⟩⟩, fun _ h => absurd h List.not_mem_nil⟩, List.forall_mem_cons.mpr ⟨List.forall_mem_cons.mpr ⟨⟨RX11, TX11, 16, _, rfl, rfl, mw_1055, mw_153, Or.inl ⟨mw_1056, mw_1057⟩⟩, fun _ h => absurd h List.not_mem_nil⟩, List.forall_mem_cons.mpr ⟨List.forall_mem_cons.mpr ⟨⟨RX12, TX12, 32, _, rfl, rfl, mw_1058, mw_227, Or.inl ⟨mw_1059, mw_1060⟩⟩, fun _ h => absurd h List.not_mem_nil⟩, fun _ h => absurd h List.not_mem_nil⟩⟩⟩⟩⟩⟩⟩⟩⟩⟩⟩⟩⟩⟩⟩⟩⟩⟩⟩⟩⟩⟩⟩⟩⟩⟩⟩⟩⟩⟩⟩⟩⟩⟩⟩⟩⟩⟩⟩⟩⟩⟩⟩⟩⟩⟩⟩⟩⟩⟩⟩⟩⟩⟩⟩⟩⟩⟩⟩⟩⟩⟩⟩⟩⟩⟩⟩⟩⟩⟩⟩⟩⟩⟩⟩⟩⟩⟩⟩⟩⟩⟩⟩⟩⟩⟩⟩⟩⟩⟩
theorem xn_ok_13 : ∀ e ∈ xNL_13, xn_G 13 e := List.forall_mem_cons.mpr ⟨⟨RX11, TX11, 16, tyX11, rfl, mw_1064, mw_1065, mw_153, tyX11_ok, by decide +kernel, rfl⟩, List.forall_mem_cons.mpr ⟨⟨RX12, TX12, 32, tyX12, rfl, mw_1066, mw_1067, mw_227, tyX12_ok, by decide +kernel, rfl⟩, fun _ h => absurd h List.not_mem_nil⟩⟩
theorem xa_ok_13 : ∀ e ∈ xAL_13, xa_G 13 e := fun _ h => absurd h List.not_mem_nil
theorem xk_ok_13 : ∀ e ∈ xKL_13, xk_G 13 e := fun _ h => absurd h List.not_mem_nil
theorem xf_ok_14 : ∀ e ∈ xFL_14, xf_G 14 e := fun _ h => absurd h List.not_mem_nil
theorem xc_ok_14 : ∀ e ∈ xCL_14, xc_G 14 e := fun _ h => absurd h List.not_mem_nil
theorem xn_ok_14 : ∀ e ∈ xNL_14, xn_G 14 e := fun _ h => absurd h List.not_mem_nil
theorem xa_ok_14 : ∀ e ∈ xAL_14, xa_G 14 e := fun _ h => absurd h List.not_mem_nil
theorem xk_ok_14 : ∀ e ∈ xKL_14, xk_G 14 e := List.forall_mem_cons.mpr ⟨mw_1085, List.forall_mem_cons.mpr ⟨mw_1086, List.forall_mem_cons.mpr ⟨mw_1087, fun _ h => absurd h List.not_mem_nil⟩⟩⟩
theorem xf_all : ∀ (oc : Nat) (r : List xFE), xFL[oc]? = some r → ∀ e ∈ r, xf_G oc e
  | 0, _, h => Option.some.inj h ▸ xf_ok_0
  | 1, _, h => Option.some.inj h ▸ xf_ok_1
  | 2, _, h => Option.some.inj h ▸ xf_ok_2
  | 3, _, h => Option.some.inj h ▸ xf_ok_3
  | 4, _, h => Option.some.inj h ▸ xf_ok_4
  | 5, _, h => Option.some.inj h ▸ xf_ok_5
  | 6, _, h => Option.some.inj h ▸ xf_ok_6
  | 7, _, h => Option.some.inj h ▸ xf_ok_7
  | 8, _, h => Option.some.inj h ▸ xf_ok_8
  | 9, _, h => Option.some.inj h ▸ xf_ok_9
  | 10, _, h => Option.some.inj h ▸ xf_ok_10
  | 11, _, h => Option.some.inj h ▸ xf_ok_11
  | 12, _, h => Option.some.inj h ▸ xf_ok_12
  | 13, _, h => Option.some.inj h ▸ xf_ok_13
  | 14, _, h => Option.some.inj h ▸ xf_ok_14
  | _ + 15, _, h => nomatch h
theorem xf_ok {oc i : Nat} {e : xFE} (h : xf oc i = some e) : xf_G oc e ∧ e.1 = i := by
  unfold xf at h
  split at h
  · rename_i r hr
    exact ⟨xf_all _ _ hr _ (List.mem_of_find?_eq_some h), by simpa using List.find?_some h⟩
  · cases h
theorem xc_all : ∀ (oc : Nat) (r : List xCE), xCL[oc]? = some r → ∀ e ∈ r, xc_G oc e
  | 0, _, h => Option.some.inj h ▸ xc_ok_0
  | 1, _, h => Option.some.inj h ▸ xc_ok_1
  | 2, _, h => Option.some.inj h ▸ xc_ok_2
  | 3, _, h => Option.some.inj h ▸ xc_ok_3
  | 4, _, h => Option.some.inj h ▸ xc_ok_4
  | 5, _, h => Option.some.inj h ▸ xc_ok_5
  | 6, _, h => Option.some.inj h ▸ xc_ok_6
  | 7, _, h => Option.some.inj h ▸ xc_ok_7
  | 8, _, h => Option.some.inj h ▸ xc_ok_8
  | 9, _, h => Option.some.inj h ▸ xc_ok_9
  | 10, _, h => Option.some.inj h ▸ xc_ok_10
  | 11, _, h => Option.some.inj h ▸ xc_ok_11
  | 12, _, h => Option.some.inj h ▸ xc_ok_12
  | 13, _, h => Option.some.inj h ▸ xc_ok_13
  | 14, _, h => Option.some.inj h ▸ xc_ok_14
  | _ + 15, _, h => nomatch h
theorem xc_ok {oc i : Nat} {e : xCE} (h : xc oc i = some e) : xc_G oc e ∧ e.1 = i := by
  unfold xc at h
  split at h
  · rename_i r hr
    exact ⟨xc_all _ _ hr _ (List.mem_of_find?_eq_some h), by simpa using List.find?_some h⟩
  · cases h
theorem xn_all : ∀ (oc : Nat) (r : List (Nat × Nat × List Value)), xNL[oc]? = some r → ∀ e ∈ r, xn_G oc e
  | 0, _, h => Option.some.inj h ▸ xn_ok_0
  | 1, _, h => Option.some.inj h ▸ xn_ok_1
  | 2, _, h => Option.some.inj h ▸ xn_ok_2
  | 3, _, h => Option.some.inj h ▸ xn_ok_3
  | 4, _, h => Option.some.inj h ▸ xn_ok_4
  | 5, _, h => Option.some.inj h ▸ xn_ok_5
  | 6, _, h => Option.some.inj h ▸ xn_ok_6
  | 7, _, h => Option.some.inj h ▸ xn_ok_7
  | 8, _, h => Option.some.inj h ▸ xn_ok_8
  | 9, _, h => Option.some.inj h ▸ xn_ok_9
  | 10, _, h => Option.some.inj h ▸ xn_ok_10
  | 11, _, h => Option.some.inj h ▸ xn_ok_11
  | 12, _, h => Option.some.inj h ▸ xn_ok_12
  | 13, _, h => Option.some.inj h ▸ xn_ok_13
  | 14, _, h => Option.some.inj h ▸ xn_ok_14
  | _ + 15, _, h => nomatch h
theorem xn_ok {oc i : Nat} {e : (Nat × Nat × List Value)} (h : xn oc i = some e) : xn_G oc e ∧ e.1 = i := by
  unfold xn at h
  split at h
  · rename_i r hr
    exact ⟨xn_all _ _ hr _ (List.mem_of_find?_eq_some h), by simpa using List.find?_some h⟩
  · cases h
theorem xa_all : ∀ (oc : Nat) (r : List (Nat × Nat)), xAL[oc]? = some r → ∀ e ∈ r, xa_G oc e
  | 0, _, h => Option.some.inj h ▸ xa_ok_0
  | 1, _, h => Option.some.inj h ▸ xa_ok_1
  | 2, _, h => Option.some.inj h ▸ xa_ok_2
  | 3, _, h => Option.some.inj h ▸ xa_ok_3
  | 4, _, h => Option.some.inj h ▸ xa_ok_4
  | 5, _, h => Option.some.inj h ▸ xa_ok_5
  | 6, _, h => Option.some.inj h ▸ xa_ok_6
  | 7, _, h => Option.some.inj h ▸ xa_ok_7
  | 8, _, h => Option.some.inj h ▸ xa_ok_8
  | 9, _, h => Option.some.inj h ▸ xa_ok_9
  | 10, _, h => Option.some.inj h ▸ xa_ok_10
  | 11, _, h => Option.some.inj h ▸ xa_ok_11
  | 12, _, h => Option.some.inj h ▸ xa_ok_12
  | 13, _, h => Option.some.inj h ▸ xa_ok_13
  | 14, _, h => Option.some.inj h ▸ xa_ok_14
  | _ + 15, _, h => nomatch h
theorem xa_ok {oc i : Nat} {e : (Nat × Nat)} (h : xa oc i = some e) : xa_G oc e ∧ e.1 = i := by
  unfold xa at h
  split at h
  · rename_i r hr
    exact ⟨xa_all _ _ hr _ (List.mem_of_find?_eq_some h), by simpa using List.find?_some h⟩
  · cases h
theorem xk_all : ∀ (oc : Nat) (r : List (Nat × Value)), xKL[oc]? = some r → ∀ e ∈ r, xk_G oc e
  | 0, _, h => Option.some.inj h ▸ xk_ok_0
  | 1, _, h => Option.some.inj h ▸ xk_ok_1
  | 2, _, h => Option.some.inj h ▸ xk_ok_2
  | 3, _, h => Option.some.inj h ▸ xk_ok_3
  | 4, _, h => Option.some.inj h ▸ xk_ok_4
  | 5, _, h => Option.some.inj h ▸ xk_ok_5
  | 6, _, h => Option.some.inj h ▸ xk_ok_6
  | 7, _, h => Option.some.inj h ▸ xk_ok_7
  | 8, _, h => Option.some.inj h ▸ xk_ok_8
  | 9, _, h => Option.some.inj h ▸ xk_ok_9
  | 10, _, h => Option.some.inj h ▸ xk_ok_10
  | 11, _, h => Option.some.inj h ▸ xk_ok_11
  | 12, _, h => Option.some.inj h ▸ xk_ok_12
  | 13, _, h => Option.some.inj h ▸ xk_ok_13
  | 14, _, h => Option.some.inj h ▸ xk_ok_14
  | _ + 15, _, h => nomatch h
theorem xk_ok {oc i : Nat} {e : (Nat × Value)} (h : xk oc i = some e) : xk_G oc e ∧ e.1 = i := by
  unfold xk at h
  split at h
  · rename_i r hr
    exact ⟨xk_all _ _ hr _ (List.mem_of_find?_eq_some h), by simpa using List.find?_some h⟩
  · cases h
theorem xm_ok_0 : ∀ q ∈ xMX_0, xm_G q := List.forall_mem_cons.mpr ⟨⟨xt_ok_0, mw_64, mw_65, by decide +kernel, rfl, (fun _ => rfl), rfl, by decide, by decide +kernel⟩, List.forall_mem_cons.mpr ⟨⟨xt_ok_1, mw_66, mw_65, by decide +kernel, rfl, (fun h => absurd h (by decide)), rfl, by decide, by decide +kernel⟩, List.forall_mem_cons.mpr ⟨⟨xt_ok_2, mw_67, mw_65, by decide +kernel, rfl, (fun h => absurd h (by decide)), rfl, by decide, by decide +kernel⟩, List.forall_mem_cons.mpr ⟨⟨xt_ok_3, mw_68, mw_65, by decide +kernel, rfl, (fun h => absurd h (by decide)), rfl, by decide, by decide +kernel⟩, List.forall_mem_cons.mpr ⟨⟨xt_ok_4, mw_69, mw_65, by decide +kernel, rfl, (fun h => absurd h (by decide)), rfl, by decide, by decide +kernel⟩, List.forall_mem_cons.mpr ⟨⟨xt_ok_5, mw_70, mw_65, by decide +kernel, rfl, (fun h => absurd h (by decide)), rfl, by decide, by decide +kernel⟩, List.forall_mem_cons.mpr ⟨⟨xt_ok_6, mw_71, mw_65, by decide +kernel, rfl, (fun h => absurd h (by decide)), rfl, by decide, by decide +kernel⟩, List.forall_mem_cons.mpr ⟨⟨xt_ok_7, mw_72, mw_65, by decide +kernel, rfl, (fun h => absurd h (by decide)), rfl, by decide, by decide +kernel⟩, List.forall_mem_cons.mpr ⟨⟨xt_ok_8, mw_73, mw_65, by decide +kernel, rfl, (fun h => absurd h (by decide)), rfl, by decide, by decide +kernel⟩, List.forall_mem_cons.mpr ⟨⟨xt_ok_9, mw_74, mw_65, by decide +kernel, rfl, (fun h => absurd h (by decide)), rfl, by decide, by decide +kernel⟩, List.forall_mem_cons.mpr ⟨⟨xt_ok_10, mw_75, mw_65, by decide +kernel, rfl, (fun h => absurd h (by decide)), rfl, by decide, by decide +kernel⟩, List.forall_mem_cons.mpr ⟨⟨xt_ok_11, mw_76, mw_65, by decide +kernel, rfl, (fun h => absurd h (by decide)), rfl, by decide, by decide +kernel⟩, List.forall_mem_cons.mpr ⟨⟨xt_ok_12, mw_77, mw_78, by decide +kernel, rfl, (fun _ => rfl), rfl, by decide, by decide +kernel⟩, List.forall_mem_cons.mpr ⟨⟨xt_ok_13, mw_79, mw_78, by decide +kernel, rfl, (fun h => absurd h (by decide)), rfl, by decide, by decide +kernel⟩, List.forall_mem_cons.mpr ⟨⟨xt_ok_14, mw_80, mw_78, by decide +kernel, rfl, (fun h => absurd h (by decide)), rfl, by decide, by decide +kernel⟩, List.forall_mem_cons.mpr ⟨⟨xt_ok_15, mw_81, mw_78, by decide +kernel, rfl, (fun h => absurd h (by decide)), rfl, by decide, by decide +kernel⟩, fun _ h => absurd h List.not_mem_nil⟩⟩⟩⟩⟩⟩⟩⟩⟩⟩⟩⟩⟩⟩⟩⟩
theorem xm_ok_1 : ∀ q ∈ xMX_1, xm_G q := List.forall_mem_cons.mpr ⟨⟨xt_ok_16, mw_82, mw_78, by decide +kernel, rfl, (fun h => absurd h (by decide)), rfl, by decide, by decide +kernel⟩, List.forall_mem_cons.mpr ⟨⟨xt_ok_17, mw_83, mw_78, by decide +kernel, rfl, (fun h => absurd h (by decide)), rfl, by decide, by decide +kernel⟩, List.forall_mem_cons.mpr ⟨⟨xt_ok_18, mw_84, mw_78, by decide +kernel, rfl, (fun h => absurd h (by decide)), rfl, by decide, by decide +kernel⟩, List.forall_mem_cons.mpr ⟨⟨xt_ok_19, mw_85, mw_78, by decide +kernel, rfl, (fun h => absurd h (by decide)), rfl, by decide, by decide +kernel⟩, List.forall_mem_cons.mpr ⟨⟨xt_ok_20, mw_86, mw_78, by decide +kernel, rfl, (fun h => absurd h (by decide)), rfl, by decide, by decide +kernel⟩, List.forall_mem_cons.mpr ⟨⟨xt_ok_21, mw_87, mw_78, by decide +kernel, rfl, (fun h => absurd h (by decide)), rfl, by decide, by decide +kernel⟩, List.forall_mem_cons.mpr ⟨⟨xt_ok_22, mw_88, mw_89, by decide +kernel, rfl, (fun _ => rfl), rfl, by decide, by decide +kernel⟩, List.forall_mem_cons.mpr ⟨⟨xt_ok_23, mw_90, mw_89, by decide +kernel, rfl, (fun h => absurd h (by decide)), rfl, by decide, by decide +kernel⟩, List.forall_mem_cons.mpr ⟨⟨xt_ok_24, mw_91, mw_89, by decide +kernel, rfl, (fun h => absurd h (by decide)), rfl, by decide, by decide +kernel⟩, List.forall_mem_cons.mpr ⟨⟨xt_ok_25, mw_92, mw_89, by decide +kernel, rfl, (fun h => absurd h (by decide)), rfl, by decide, by decide +kernel⟩, List.forall_mem_cons.mpr ⟨⟨xt_ok_26, mw_93, mw_89, by decide +kernel, rfl, (fun h => absurd h (by decide)), rfl, by decide, by decide +kernel⟩, List.forall_mem_cons.mpr ⟨⟨xt_ok_27, mw_94, mw_89, by decide +kernel, rfl, (fun h => absurd h (by decide)), rfl, by decide, by decide +kernel⟩, List.forall_mem_cons.mpr ⟨⟨xt_ok_28, mw_95, mw_89, by decide +kernel, rfl, (fun h => absurd h (by decide)), rfl, by decide, by decide +kernel⟩, List.forall_mem_cons.mpr ⟨⟨xt_ok_29, mw_96, mw_89, by decide +kernel, rfl, (fun h => absurd h (by decide)), rfl, by decide, by decide +kernel⟩, List.forall_mem_cons.mpr ⟨⟨xt_ok_30, mw_97, mw_89, by decide +kernel, rfl, (fun h => absurd h (by decide)), rfl, by decide, by decide +kernel⟩, List.forall_mem_cons.mpr ⟨⟨xt_ok_31, mw_98, mw_89, by decide +kernel, rfl, (fun h => absurd h (by decide)), rfl, by decide, by decide +kernel⟩, fun _ h => absurd h List.not_mem_nil⟩⟩⟩⟩⟩⟩⟩⟩⟩⟩⟩⟩⟩⟩⟩⟩
theorem xm_ok_2 : ∀ q ∈ xMX_2, xm_G q := List.forall_mem_cons.mpr ⟨⟨xt_ok_32, mw_99, mw_89, by decide +kernel, rfl, (fun h => absurd h (by decide)), rfl, by decide, by decide +kernel⟩, List.forall_mem_cons.mpr ⟨⟨xt_ok_33, mw_100, mw_89, by decide +kernel, rfl, (fun h => absurd h (by decide)), rfl, by decide, by decide +kernel⟩, List.forall_mem_cons.mpr ⟨⟨xt_ok_34, mw_101, mw_89, by decide +kernel, rfl, (fun h => absurd h (by decide)), rfl, by decide, by decide +kernel⟩, List.forall_mem_cons.mpr ⟨⟨xt_ok_35, mw_102, mw_89, by decide +kernel, rfl, (fun h => absurd h (by decide)), rfl, by decide, by decide +kernel⟩, List.forall_mem_cons.mpr ⟨⟨xt_ok_36, mw_103, mw_89, by decide +kernel, rfl, (fun h => absurd h (by decide)), rfl, by decide, by decide +kernel⟩, List.forall_mem_cons.mpr ⟨⟨xt_ok_37, mw_104, mw_105, by decide +kernel, rfl, (fun _ => rfl), rfl, by decide, by decide +kernel⟩, List.forall_mem_cons.mpr ⟨⟨xt_ok_38, mw_106, mw_107, by decide +kernel, rfl, (fun _ => rfl), rfl, by decide, by decide +kernel⟩, List.forall_mem_cons.mpr ⟨⟨xt_ok_39, mw_108, mw_107, by decide +kernel, rfl, (fun h => absurd h (by decide)), rfl, by decide, by decide +kernel⟩, List.forall_mem_cons.mpr ⟨⟨xt_ok_40, mw_109, mw_107, by decide +kernel, rfl, (fun h => absurd h (by decide)), rfl, by decide, by decide +kernel⟩, List.forall_mem_cons.mpr ⟨⟨xt_ok_41, mw_110, mw_111, by decide +kernel, rfl, (fun _ => rfl), rfl, by decide, by decide +kernel⟩, List.forall_mem_cons.mpr ⟨⟨xt_ok_42, mw_112, mw_111, by decide +kernel, rfl, (fun h => absurd h (by decide)), rfl, by decide, by decide +kernel⟩, List.forall_mem_cons.mpr ⟨⟨xt_ok_43, mw_113, mw_111, by decide +kernel, rfl, (fun h => absurd h (by decide)), rfl, by decide, by decide +kernel⟩, List.forall_mem_cons.mpr ⟨⟨xt_ok_44, mw_114, mw_115, by decide +kernel, rfl, (fun _ => rfl), rfl, by decide, by decide +kernel⟩, List.forall_mem_cons.mpr ⟨⟨xt_ok_45, mw_116, mw_115, by decide +kernel, rfl, (fun h => absurd h (by decide)), rfl, by decide, by decide +kernel⟩, List.forall_mem_cons.mpr ⟨⟨xt_ok_46, mw_117, mw_115, by decide +kernel, rfl, (fun h => absurd h (by decide)), rfl, by decide, by decide +kernel⟩, List.forall_mem_cons.mpr ⟨⟨xt_ok_47, mw_118, mw_119, by decide +kernel, rfl, (fun _ => rfl), rfl, by decide, by decide +kernel⟩, fun _ h => absurd h List.not_mem_nil⟩⟩⟩⟩⟩⟩⟩⟩⟩⟩⟩⟩⟩⟩⟩⟩
theorem xm_ok_3 : ∀ q ∈ xMX_3, xm_G q := List.forall_mem_cons.mpr ⟨⟨xt_ok_48, mw_120, mw_119, by decide +kernel, rfl, (fun h => absurd h (by decide)), rfl, by decide, by decide +kernel⟩, List.forall_mem_cons.mpr ⟨⟨xt_ok_49, mw_121, mw_119, by decide +kernel, rfl, (fun h => absurd h (by decide)), rfl, by decide, by decide +kernel⟩, List.forall_mem_cons.mpr ⟨⟨xt_ok_50, mw_122, mw_119, by decide +kernel, rfl, (fun h => absurd h (by decide)), rfl, by decide, by decide +kernel⟩, List.forall_mem_cons.mpr ⟨⟨xt_ok_51, mw_123, mw_119, by decide +kernel, rfl, (fun h => absurd h (by decide)), rfl, by decide, by decide +kernel⟩, List.forall_mem_cons.mpr ⟨⟨xt_ok_52, mw_124, mw_119, by decide +kernel, rfl, (fun h => absurd h (by decide)), rfl, by decide, by decide +kernel⟩, List.forall_mem_cons.mpr ⟨⟨xt_ok_53, mw_125, mw_119, by decide +kernel, rfl, (fun h => absurd h (by decide)), rfl, by decide, by decide +kernel⟩, List.forall_mem_cons.mpr ⟨⟨xt_ok_54, mw_126, mw_127, by decide +kernel, rfl, (fun _ => rfl), rfl, by decide, by decide +kernel⟩, List.forall_mem_cons.mpr ⟨⟨xt_ok_55, mw_128, mw_127, by decide +kernel, rfl, (fun h => absurd h (by decide)), rfl, by decide, by decide +kernel⟩, List.forall_mem_cons.mpr ⟨⟨xt_ok_56, mw_129, mw_127, by decide +kernel, rfl, (fun h => absurd h (by decide)), rfl, by decide, by decide +kernel⟩, List.forall_mem_cons.mpr ⟨⟨xt_ok_57, mw_130, mw_127, by decide +kernel, rfl, (fun h => absurd h (by decide)), rfl, by decide, by decide +kernel⟩, List.forall_mem_cons.mpr ⟨⟨xt_ok_58, mw_131, mw_127, by decide +kernel, rfl, (fun h => absurd h (by decide)), rfl, by decide, by decide +kernel⟩, List.forall_mem_cons.mpr ⟨⟨xt_ok_59, mw_132, mw_127, by decide +kernel, rfl, (fun h => absurd h (by decide)), rfl, by decide, by decide +kernel⟩, List.forall_mem_cons.mpr ⟨⟨xt_ok_60, mw_133, mw_127, by decide +kernel, rfl, (fun h => absurd h (by decide)), rfl, by decide, by decide +kernel⟩, List.forall_mem_cons.mpr ⟨⟨xt_ok_61, mw_134, mw_127, by decide +kernel, rfl, (fun h => absurd h (by decide)), rfl, by decide, by decide +kernel⟩, List.forall_mem_cons.mpr ⟨⟨xt_ok_62, mw_135, mw_127, by decide +kernel, rfl, (fun h => absurd h (by decide)), rfl, by decide, by decide +kernel⟩, List.forall_mem_cons.mpr ⟨⟨xt_ok_63, mw_136, mw_127, by decide +kernel, rfl, (fun h => absurd h (by decide)), rfl, by decide, by decide +kernel⟩, fun _ h => absurd h List.not_mem_nil⟩⟩⟩⟩⟩⟩⟩⟩⟩⟩⟩⟩⟩⟩⟩⟩
theorem xm_ok_4 : ∀ q ∈ xMX_4, xm_G q := List.forall_mem_cons.mpr ⟨⟨xt_ok_64, mw_137, mw_127, by decide +kernel, rfl, (fun h => absurd h (by decide)), rfl, by decide, by decide +kernel⟩, List.forall_mem_cons.mpr ⟨⟨xt_ok_65, mw_138, mw_127, by decide +kernel, rfl, (fun h => absurd h (by decide)), rfl, by decide, by decide +kernel⟩, List.forall_mem_cons.mpr ⟨⟨xt_ok_66, mw_139, mw_127, by decide +kernel, rfl, (fun h => absurd h (by decide)), rfl, by decide, by decide +kernel⟩, List.forall_mem_cons.mpr ⟨⟨xt_ok_67, mw_140, mw_127, by decide +kernel, rfl, (fun h => absurd h (by decide)), rfl, by decide, by decide +kernel⟩, List.forall_mem_cons.mpr ⟨⟨xt_ok_68, mw_141, mw_127, by decide +kernel, rfl, (fun h => absurd h (by decide)), rfl, by decide, by decide +kernel⟩, List.forall_mem_cons.mpr ⟨⟨xt_ok_69, mw_142, mw_127, by decide +kernel, rfl, (fun h => absurd h (by decide)), rfl, by decide, by decide +kernel⟩, List.forall_mem_cons.mpr ⟨⟨xt_ok_70, mw_143, mw_127, by decide +kernel, rfl, (fun h => absurd h (by decide)), rfl, by decide, by decide +kernel⟩, List.forall_mem_cons.mpr ⟨⟨xt_ok_71, mw_144, mw_127, by decide +kernel, rfl, (fun h => absurd h (by decide)), rfl, by decide, by decide +kernel⟩, List.forall_mem_cons.mpr ⟨⟨xt_ok_72, mw_145, mw_146, by decide +kernel, rfl, (fun _ => rfl), rfl, by decide, by decide +kernel⟩, List.forall_mem_cons.mpr ⟨⟨xt_ok_73, mw_147, mw_146, by decide +kernel, rfl, (fun h => absurd h (by decide)), rfl, by decide, by decide +kernel⟩, List.forall_mem_cons.mpr ⟨⟨xt_ok_74, mw_148, mw_146, by decide +kernel, rfl, (fun h => absurd h (by decide)), rfl, by decide, by decide +kernel⟩, List.forall_mem_cons.mpr ⟨⟨xt_ok_75, mw_149, mw_150, by decide +kernel, rfl, (fun _ => rfl), rfl, by decide, by decide +kernel⟩, List.forall_mem_cons.mpr ⟨⟨xt_ok_76, mw_151, mw_150, by decide +kernel, rfl, (fun h => absurd h (by decide)), rfl, by decide, by decide +kernel⟩, List.forall_mem_cons.mpr ⟨⟨xt_ok_77, mw_152, mw_153, by decide +kernel, rfl, (fun _ => rfl), rfl, by decide, by decide +kernel⟩, List.forall_mem_cons.mpr ⟨⟨xt_ok_78, mw_154, mw_153, by decide +kernel, rfl, (fun h => absurd h (by decide)), rfl, by decide, by decide +kernel⟩, List.forall_mem_cons.mpr ⟨⟨xt_ok_79, mw_155, mw_153, by decide +kernel, rfl, (fun h => absurd h (by decide)), rfl, by decide, by decide +kernel⟩, fun _ h => absurd h List.not_mem_nil⟩⟩⟩⟩⟩⟩⟩⟩⟩⟩⟩⟩⟩⟩⟩⟩
theorem xm_ok_5 : ∀ q ∈ xMX_5, xm_G q := List.forall_mem_cons.mpr ⟨⟨xt_ok_80, mw_156, mw_153, by decide +kernel, rfl, (fun h => absurd h (by decide)), rfl, by decide, by decide +kernel⟩, List.forall_mem_cons.mpr ⟨⟨xt_ok_81, mw_157, mw_153, by decide +kernel, rfl, (fun h => absurd h (by decide)), rfl, by decide, by decide +kernel⟩, List.forall_mem_cons.mpr ⟨⟨xt_ok_82, mw_158, mw_153, by decide +kernel, rfl, (fun h => absurd h (by decide)), rfl, by decide, by decide +kernel⟩, List.forall_mem_cons.mpr ⟨⟨xt_ok_83, mw_159, mw_153, by decide +kernel, rfl, (fun h => absurd h (by decide)), rfl, by decide, by decide +kernel⟩, List.forall_mem_cons.mpr ⟨⟨xt_ok_84, mw_160, mw_153, by decide +kernel, rfl, (fun h => absurd h (by decide)), rfl, by decide, by decide +kernel⟩, List.forall_mem_cons.mpr ⟨⟨xt_ok_85, mw_161, mw_153, by decide +kernel, rfl, (fun h => absurd h (by decide)), rfl, by decide, by decide +kernel⟩, List.forall_mem_cons.mpr ⟨⟨xt_ok_86, mw_162, mw_153, by decide +kernel, rfl, (fun h => absurd h (by decide)), rfl, by decide, by decide +kernel⟩, List.forall_mem_cons.mpr ⟨⟨xt_ok_87, mw_163, mw_153, by decide +kernel, rfl, (fun h => absurd h (by decide)), rfl, by decide, by decide +kernel⟩, List.forall_mem_cons.mpr ⟨⟨xt_ok_88, mw_164, mw_153, by decide +kernel, rfl, (fun h => absurd h (by decide)), rfl, by decide, by decide +kernel⟩, List.forall_mem_cons.mpr ⟨⟨xt_ok_89, mw_165, mw_153, by decide +kernel, rfl, (fun h => absurd h (by decide)), rfl, by decide, by decide +kernel⟩, List.forall_mem_cons.mpr ⟨⟨xt_ok_90, mw_166, mw_153, by decide +kernel, rfl, (fun h => absurd h (by decide)), rfl, by decide, by decide +kernel⟩, List.forall_mem_cons.mpr ⟨⟨xt_ok_91, mw_167, mw_153, by decide +kernel, rfl, (fun h => absurd h (by decide)), rfl, by decide, by decide +kernel⟩, List.forall_mem_cons.mpr ⟨⟨xt_ok_92, mw_168, mw_153, by decide +kernel, rfl, (fun h => absurd h (by decide)), rfl, by decide, by decide +kernel⟩, List.forall_mem_cons.mpr ⟨⟨xt_ok_93, mw_169, mw_153, by decide +kernel, rfl, (fun h => absurd h (by decide)), rfl, by decide, by decide +kernel⟩, List.forall_mem_cons.mpr ⟨⟨xt_ok_94, mw_170, mw_153, by decide +kernel, rfl, (fun h => absurd h (by decide)), rfl, by decide, by decide +kernel⟩, List.forall_mem_cons.mpr ⟨⟨xt_ok_95, mw_171, mw_153, by decide +kernel, rfl, (fun h => absurd h (by decide)), rfl, by decide, by decide +kernel⟩, fun _ h => absurd h List.not_mem_nil⟩⟩⟩⟩⟩⟩⟩⟩⟩⟩⟩⟩⟩⟩⟩⟩
theorem xm_ok_6 : ∀ q ∈ xMX_6, xm_G q := List.forall_mem_cons.mpr ⟨⟨xt_ok_96, mw_172, mw_153, by decide +kernel, rfl, (fun h => absurd h (by decide)), rfl, by decide, by decide +kernel⟩, List.forall_mem_cons.mpr ⟨⟨xt_ok_97, mw_173, mw_153, by decide +kernel, rfl, (fun h => absurd h (by decide)), rfl, by decide, by decide +kernel⟩, List.forall_mem_cons.mpr ⟨⟨xt_ok_98, mw_174, mw_153, by decide +kernel, rfl, (fun h => absurd h (by decide)), rfl, by decide, by decide +kernel⟩, List.forall_mem_cons.mpr ⟨⟨xt_ok_99, mw_175, mw_153, by decide +kernel, rfl, (fun h => absurd h (by decide)), rfl, by decide, by decide +kernel⟩, List.forall_mem_cons.mpr ⟨⟨xt_ok_100, mw_176, mw_153, by decide +kernel, rfl, (fun h => absurd h (by decide)), rfl, by decide, by decide +kernel⟩, List.forall_mem_cons.mpr ⟨⟨xt_ok_101, mw_177, mw_153, by decide +kernel, rfl, (fun h => absurd h (by decide)), rfl, by decide, by decide +kernel⟩, List.forall_mem_cons.mpr ⟨⟨xt_ok_102, mw_178, mw_153, by decide +kernel, rfl, (fun h => absurd h (by decide)), rfl, by decide, by decide +kernel⟩, List.forall_mem_cons.mpr ⟨⟨xt_ok_103, mw_179, mw_153, by decide +kernel, rfl, (fun h => absurd h (by decide)), rfl, by decide, by decide +kernel⟩, List.forall_mem_cons.mpr ⟨⟨xt_ok_104, mw_180, mw_153, by decide +kernel, rfl, (fun h => absurd h (by decide)), rfl, by decide, by decide +kernel⟩, List.forall_mem_cons.mpr ⟨⟨xt_ok_105, mw_181, mw_153, by decide +kernel, rfl, (fun h => absurd h (by decide)), rfl, by decide, by decide +kernel⟩, List.forall_mem_cons.mpr ⟨⟨xt_ok_106, mw_182, mw_153, by decide +kernel, rfl, (fun h => absurd h (by decide)), rfl, by decide, by decide +kernel⟩, List.forall_mem_cons.mpr ⟨⟨xt_ok_107, mw_183, mw_153, by decide +kernel, rfl, (fun h => absurd h (by decide)), rfl, by decide, by decide +kernel⟩, List.forall_mem_cons.mpr ⟨⟨xt_ok_108, mw_184, mw_153, by decide +kernel, rfl, (fun h => absurd h (by decide)), rfl, by decide, by decide +kernel⟩, List.forall_mem_cons.mpr ⟨⟨xt_ok_109, mw_185, mw_153, by decide +kernel, rfl, (fun h => absurd h (by decide)), rfl, by decide, by decide +kernel⟩, List.forall_mem_cons.mpr ⟨⟨xt_ok_110, mw_186, mw_153, by decide +kernel, rfl, (fun h => absurd h (by decide)), rfl, by decide, by decide +kernel⟩, List.forall_mem_cons.mpr ⟨⟨xt_ok_111, mw_187, mw_153, by decide +kernel, rfl, (fun h => absurd h (by decide)), rfl, by decide, by decide +kernel⟩, fun _ h => absurd h List.not_mem_nil⟩⟩⟩⟩⟩⟩⟩⟩⟩⟩⟩⟩⟩⟩⟩⟩
theorem xm_ok_7 : ∀ q ∈ xMX_7, xm_G q := List.forall_mem_cons.mpr ⟨⟨xt_ok_112, mw_188, mw_153, by decide +kernel, rfl, (fun h => absurd h (by decide)), rfl, by decide, by decide +kernel⟩, List.forall_mem_cons.mpr ⟨⟨xt_ok_113, mw_189, mw_153, by decide +kernel, rfl, (fun h => absurd h (by decide)), rfl, by decide, by decide +kernel⟩, List.forall_mem_cons.mpr ⟨⟨xt_ok_114, mw_190, mw_153, by decide +kernel, rfl, (fun h => absurd h (by decide)), rfl, by decide, by decide +kernel⟩, List.forall_mem_cons.mpr ⟨⟨xt_ok_115, mw_191, mw_153, by decide +kernel, rfl, (fun h => absurd h (by decide)), rfl, by decide, by decide +kernel⟩, List.forall_mem_cons.mpr ⟨⟨xt_ok_116, mw_192, mw_153, by decide +kernel, rfl, (fun h => absurd h (by decide)), rfl, by decide, by decide +kernel⟩, List.forall_mem_cons.mpr ⟨⟨xt_ok_117, mw_193, mw_153, by decide +kernel, rfl, (fun h => absurd h (by decide)), rfl, by decide, by decide +kernel⟩, List.forall_mem_cons.mpr ⟨⟨xt_ok_118, mw_194, mw_153, by decide +kernel, rfl, (fun h => absurd h (by decide)), rfl, by decide, by decide +kernel⟩, List.forall_mem_cons.mpr ⟨⟨xt_ok_119, mw_195, mw_153, by decide +kernel, rfl, (fun h => absurd h (by decide)), rfl, by decide, by decide +kernel⟩, List.forall_mem_cons.mpr ⟨⟨xt_ok_120, mw_196, mw_153, by decide +kernel, rfl, (fun h => absurd h (by decide)), rfl, by decide, by decide +kernel⟩, List.forall_mem_cons.mpr ⟨⟨xt_ok_121, mw_197, mw_153, by decide +kernel, rfl, (fun h => absurd h (by decide)), rfl, by decide, by decide +kernel⟩, List.forall_mem_cons.mpr ⟨⟨xt_ok_122, mw_198, mw_153, by decide +kernel, rfl, (fun h => absurd h (by decide)), rfl, by decide, by decide +kernel⟩, List.forall_mem_cons.mpr ⟨⟨xt_ok_123, mw_199, mw_153, by decide +kernel, rfl, (fun h => absurd h (by decide)), rfl, by decide, by decide +kernel⟩, List.forall_mem_cons.mpr ⟨⟨xt_ok_124, mw_200, mw_153, by decide +kernel, rfl, (fun h => absurd h (by decide)), rfl, by decide, by decide +kernel⟩, List.forall_mem_cons.mpr ⟨⟨xt_ok_125, mw_201, mw_153, by decide +kernel, rfl, (fun h => absurd h (by decide)), rfl, by decide, by decide +kernel⟩, List.forall_mem_cons.mpr ⟨⟨xt_ok_126, mw_202, mw_153, by decide +kernel, rfl, (fun h => absurd h (by decide)), rfl, by decide, by decide +kernel⟩, List.forall_mem_cons.mpr ⟨⟨xt_ok_127, mw_203, mw_153, by decide +kernel, rfl, (fun h => absurd h (by decide)), rfl, by decide, by decide +kernel⟩, fun _ h => absurd h List.not_mem_nil⟩⟩⟩⟩⟩⟩⟩⟩⟩⟩⟩⟩⟩⟩⟩⟩
theorem xm_ok_8 : ∀ q ∈ xMX_8, xm_G q := List.forall_mem_cons.mpr ⟨⟨xt_ok_128, mw_204, mw_153, by decide +kernel, rfl, (fun h => absurd h (by decide)), rfl, by decide, by decide +kernel⟩, List.forall_mem_cons.mpr ⟨⟨xt_ok_129, mw_205, mw_153, by decide +kernel, rfl, (fun h => absurd h (by decide)), rfl, by decide, by decide +kernel⟩, List.forall_mem_cons.mpr ⟨⟨xt_ok_130, mw_206, mw_153, by decide +kernel, rfl, (fun h => absurd h (by decide)), rfl, by decide, by decide +kernel⟩, List.forall_mem_cons.mpr ⟨⟨xt_ok_131, mw_207, mw_153, by decide +kernel, rfl, (fun h => absurd h (by decide)), rfl, by decide, by decide +kernel⟩, List.forall_mem_cons.mpr ⟨⟨xt_ok_132, mw_208, mw_153, by decide +kernel, rfl, (fun h => absurd h (by decide)), rfl, by decide, by decide +kernel⟩, List.forall_mem_cons.mpr ⟨⟨xt_ok_133, mw_209, mw_153, by decide +kernel, rfl, (fun h => absurd h (by decide)), rfl, by decide, by decide +kernel⟩, List.forall_mem_cons.mpr ⟨⟨xt_ok_134, mw_210, mw_153, by decide +kernel, rfl, (fun h => absurd h (by decide)), rfl, by decide, by decide +kernel⟩, List.forall_mem_cons.mpr ⟨⟨xt_ok_135, mw_211, mw_153, by decide +kernel, rfl, (fun h => absurd h (by decide)), rfl, by decide, by decide +kernel⟩, List.forall_mem_cons.mpr ⟨⟨xt_ok_136, mw_212, mw_153, by decide +kernel, rfl, (fun h => absurd h (by decide)), rfl, by decide, by decide +kernel⟩, List.forall_mem_cons.mpr ⟨⟨xt_ok_137, mw_213, mw_153, by decide +kernel, rfl, (fun h => absurd h (by decide)), rfl, by decide, by decide +kernel⟩, List.forall_mem_cons.mpr ⟨⟨xt_ok_138, mw_214, mw_153, by decide +kernel, rfl, (fun h => absurd h (by decide)), rfl, by decide, by decide +kernel⟩, List.forall_mem_cons.mpr ⟨⟨xt_ok_139, mw_215, mw_153, by decide +kernel, rfl, (fun h => absurd h (by decide)), rfl, by decide, by decide +kernel⟩, List.forall_mem_cons.mpr ⟨⟨xt_ok_140, mw_216, mw_153, by decide +kernel, rfl, (fun h => absurd h (by decide)), rfl, by decide, by decide +kernel⟩, List.forall_mem_cons.mpr ⟨⟨xt_ok_141, mw_217, mw_153, by decide +kernel, rfl, (fun h => absurd h (by decide)), rfl, by decide, by decide +kernel⟩, List.forall_mem_cons.mpr ⟨⟨xt_ok_142, mw_218, mw_153, by decide +kernel, rfl, (fun h => absurd h (by decide)), rfl, by decide, by decide +kernel⟩, List.forall_mem_cons.mpr ⟨⟨xt_ok_143, mw_219, mw_153, by decide +kernel, rfl, (fun h => absurd h (by decide)), rfl, by decide, by decide +kernel⟩, fun _ h => absurd h List.not_mem_nil⟩⟩⟩⟩⟩⟩⟩⟩⟩⟩⟩⟩⟩⟩⟩⟩
theorem xm_ok_9 : ∀ q ∈ xMX_9, xm_G q := List.forall_mem_cons.mpr ⟨⟨xt_ok_144, mw_220, mw_153, by decide +kernel, rfl, (fun h => absurd h (by decide)), rfl, by decide, by decide +kernel⟩, List.forall_mem_cons.mpr ⟨⟨xt_ok_145, mw_221, mw_153, by decide +kernel, rfl, (fun h => absurd h (by decide)), rfl, by decide, by decide +kernel⟩, List.forall_mem_cons.mpr ⟨⟨xt_ok_146, mw_222, mw_153, by decide +kernel, rfl, (fun h => absurd h (by decide)), rfl, by decide, by decide +kernel⟩, List.forall_mem_cons.mpr ⟨⟨xt_ok_147, mw_223, mw_153, by decide +kernel, rfl, (fun h => absurd h (by decide)), rfl, by decide, by decide +kernel⟩, List.forall_mem_cons.mpr ⟨⟨xt_ok_148, mw_224, mw_153, by decide +kernel, rfl, (fun h => absurd h (by decide)), rfl, by decide, by decide +kernel⟩, List.forall_mem_cons.mpr ⟨⟨xt_ok_149, mw_225, mw_153, by decide +kernel, rfl, (fun h => absurd h (by decide)), rfl, by decide, by decide +kernel⟩, List.forall_mem_cons.mpr ⟨⟨xt_ok_150, mw_226, mw_227, by decide +kernel, rfl, (fun _ => rfl), rfl, by decide, by decide +kernel⟩, List.forall_mem_cons.mpr ⟨⟨xt_ok_151, mw_228, mw_227, by decide +kernel, rfl, (fun h => absurd h (by decide)), rfl, by decide, by decide +kernel⟩, List.forall_mem_cons.mpr ⟨⟨xt_ok_152, mw_229, mw_227, by decide +kernel, rfl, (fun h => absurd h (by decide)), rfl, by decide, by decide +kernel⟩, List.forall_mem_cons.mpr ⟨⟨xt_ok_153, mw_230, mw_227, by decide +kernel, rfl, (fun h => absurd h (by decide)), rfl, by decide, by decide +kernel⟩, List.forall_mem_cons.mpr ⟨⟨xt_ok_154, mw_231, mw_227, by decide +kernel, rfl, (fun h => absurd h (by decide)), rfl, by decide, by decide +kernel⟩, List.forall_mem_cons.mpr ⟨⟨xt_ok_155, mw_232, mw_227, by decide +kernel, rfl, (fun h => absurd h (by decide)), rfl, by decide, by decide +kernel⟩, List.forall_mem_cons.mpr ⟨⟨xt_ok_156, mw_233, mw_227, by decide +kernel, rfl, (fun h => absurd h (by decide)), rfl, by decide, by decide +kernel⟩, List.forall_mem_cons.mpr ⟨⟨xt_ok_157, mw_234, mw_227, by decide +kernel, rfl, (fun h => absurd h (by decide)), rfl, by decide, by decide +kernel⟩, List.forall_mem_cons.mpr ⟨⟨xt_ok_158, mw_235, mw_227, by decide +kernel, rfl, (fun h => absurd h (by decide)), rfl, by decide, by decide +kernel⟩, List.forall_mem_cons.mpr ⟨⟨xt_ok_159, mw_236, mw_227, by decide +kernel, rfl, (fun h => absurd h (by decide)), rfl, by decide, by decide +kernel⟩, fun _ h => absurd h List.not_mem_nil⟩⟩⟩⟩⟩⟩⟩⟩⟩⟩⟩⟩⟩⟩⟩⟩
theorem xm_ok_10 : ∀ q ∈ xMX_10, xm_G q := List.forall_mem_cons.mpr ⟨⟨xt_ok_160, mw_237, mw_227, by decide +kernel, rfl, (fun h => absurd h (by decide)), rfl, by decide, by decide +kernel⟩, List.forall_mem_cons.mpr ⟨⟨xt_ok_161, mw_238, mw_227, by decide +kernel, rfl, (fun h => absurd h (by decide)), rfl, by decide, by decide +kernel⟩, List.forall_mem_cons.mpr ⟨⟨xt_ok_162, mw_239, mw_227, by decide +kernel, rfl, (fun h => absurd h (by decide)), rfl, by decide, by decide +kernel⟩, List.forall_mem_cons.mpr ⟨⟨xt_ok_163, mw_240, mw_227, by decide +kernel, rfl, (fun h => absurd h (by decide)), rfl, by decide, by decide +kernel⟩, List.forall_mem_cons.mpr ⟨⟨xt_ok_164, mw_241, mw_227, by decide +kernel, rfl, (fun h => absurd h (by decide)), rfl, by decide, by decide +kernel⟩, List.forall_mem_cons.mpr ⟨⟨xt_ok_165, mw_242, mw_227, by decide +kernel, rfl, (fun h => absurd h (by decide)), rfl, by decide, by decide +kernel⟩, List.forall_mem_cons.mpr ⟨⟨xt_ok_166, mw_243, mw_227, by decide +kernel, rfl, (fun h => absurd h (by decide)), rfl, by decide, by decide +kernel⟩, List.forall_mem_cons.mpr ⟨⟨xt_ok_167, mw_244, mw_227, by decide +kernel, rfl, (fun h => absurd h (by decide)), rfl, by decide, by decide +kernel⟩, List.forall_mem_cons.mpr ⟨⟨xt_ok_168, mw_245, mw_227, by decide +kernel, rfl, (fun h => absurd h (by decide)), rfl, by decide, by decide +kernel⟩, List.forall_mem_cons.mpr ⟨⟨xt_ok_169, mw_246, mw_227, by decide +kernel, rfl, (fun h => absurd h (by decide)), rfl, by decide, by decide +kernel⟩, List.forall_mem_cons.mpr ⟨⟨xt_ok_170, mw_247, mw_227, by decide +kernel, rfl, (fun h => absurd h (by decide)), rfl, by decide, by decide +kernel⟩, List.forall_mem_cons.mpr ⟨⟨xt_ok_171, mw_248, mw_227, by decide +kernel, rfl, (fun h => absurd h (by decide)), rfl, by decide, by decide +kernel⟩, List.forall_mem_cons.mpr ⟨⟨xt_ok_172, mw_249, mw_227, by decide +kernel, rfl, (fun h => absurd h (by decide)), rfl, by decide, by decide +kernel⟩, List.forall_mem_cons.mpr ⟨⟨xt_ok_173, mw_250, mw_227, by decide +kernel, rfl, (fun h => absurd h (by decide)), rfl, by decide, by decide +kernel⟩, List.forall_mem_cons.mpr ⟨⟨xt_ok_174, mw_251, mw_227, by decide +kernel, rfl, (fun h => absurd h (by decide)), rfl, by decide, by decide +kernel⟩, List.forall_mem_cons.mpr ⟨⟨xt_ok_175, mw_252, mw_227, by decide +kernel, rfl, (fun h => absurd h (by decide)), rfl, by decide, by decide +kernel⟩, fun _ h => absurd h List.not_mem_nil⟩⟩⟩⟩⟩⟩⟩⟩⟩⟩⟩⟩⟩⟩⟩⟩
theorem xm_ok_11 : ∀ q ∈ xMX_11, xm_G q := List.forall_mem_cons.mpr ⟨⟨xt_ok_176, mw_253, mw_227, by decide +kernel, rfl, (fun h => absurd h (by decide)), rfl, by decide, by decide +kernel⟩, List.forall_mem_cons.mpr ⟨⟨xt_ok_177, mw_254, mw_227, by decide +kernel, rfl, (fun h => absurd h (by decide)), rfl, by decide, by decide +kernel⟩, List.forall_mem_cons.mpr ⟨⟨xt_ok_178, mw_255, mw_227, by decide +kernel, rfl, (fun h => absurd h (by decide)), rfl, by decide, by decide +kernel⟩, List.forall_mem_cons.mpr ⟨⟨xt_ok_179, mw_256, mw_227, by decide +kernel, rfl, (fun h => absurd h (by decide)), rfl, by decide, by decide +kernel⟩, List.forall_mem_cons.mpr ⟨⟨xt_ok_180, mw_257, mw_227, by decide +kernel, rfl, (fun h => absurd h (by decide)), rfl, by decide, by decide +kernel⟩, List.forall_mem_cons.mpr ⟨⟨xt_ok_181, mw_258, mw_227, by decide +kernel, rfl, (fun h => absurd h (by decide)), rfl, by decide, by decide +kernel⟩, List.forall_mem_cons.mpr ⟨⟨xt_ok_182, mw_259, mw_227, by decide +kernel, rfl, (fun h => absurd h (by decide)), rfl, by decide, by decide +kernel⟩, List.forall_mem_cons.mpr ⟨⟨xt_ok_183, mw_260, mw_227, by decide +kernel, rfl, (fun h => absurd h (by decide)), rfl, by decide, by decide +kernel⟩, List.forall_mem_cons.mpr ⟨⟨xt_ok_184, mw_261, mw_227, by decide +kernel, rfl, (fun h => absurd h (by decide)), rfl, by decide, by decide +kernel⟩, List.forall_mem_cons.mpr ⟨⟨xt_ok_185, mw_262, mw_227, by decide +kernel, rfl, (fun h => absurd h (by decide)), rfl, by decide, by decide +kernel⟩, List.forall_mem_cons.mpr ⟨⟨xt_ok_186, mw_263, mw_227, by decide +kernel, rfl, (fun h => absurd h (by decide)), rfl, by decide, by decide +kernel⟩, List.forall_mem_cons.mpr ⟨⟨xt_ok_187, mw_264, mw_227, by decide +kernel, rfl, (fun h => absurd h (by decide)), rfl, by decide, by decide +kernel⟩, List.forall_mem_cons.mpr ⟨⟨xt_ok_188, mw_265, mw_227, by decide +kernel, rfl, (fun h => absurd h (by decide)), rfl, by decide, by decide +kernel⟩, List.forall_mem_cons.mpr ⟨⟨xt_ok_189, mw_266, mw_227, by decide +kernel, rfl, (fun h => absurd h (by decide)), rfl, by decide, by decide +kernel⟩, List.forall_mem_cons.mpr ⟨⟨xt_ok_190, mw_267, mw_227, by decide +kernel, rfl, (fun h => absurd h (by decide)), rfl, by decide, by decide +kernel⟩, List.forall_mem_cons.mpr ⟨⟨xt_ok_191, mw_268, mw_227, by decide +kernel, rfl, (fun h => absurd h (by decide)), rfl, by decide, by decide +kernel⟩, fun _ h => absurd h List.not_mem_nil⟩⟩⟩⟩⟩⟩⟩⟩⟩⟩⟩⟩⟩⟩⟩⟩
theorem xm_ok_12 : ∀ q ∈ xMX_12, xm_G q := List.forall_mem_cons.mpr ⟨⟨xt_ok_192, mw_269, mw_227, by decide +kernel, rfl, (fun h => absurd h (by decide)), rfl, by decide, by decide +kernel⟩, List.forall_mem_cons.mpr ⟨⟨xt_ok_193, mw_270, mw_227, by decide +kernel, rfl, (fun h => absurd h (by decide)), rfl, by decide, by decide +kernel⟩, List.forall_mem_cons.mpr ⟨⟨xt_ok_194, mw_271, mw_227, by decide +kernel, rfl, (fun h => absurd h (by decide)), rfl, by decide, by decide +kernel⟩, List.forall_mem_cons.mpr ⟨⟨xt_ok_195, mw_272, mw_227, by decide +kernel, rfl, (fun h => absurd h (by decide)), rfl, by decide, by decide +kernel⟩, List.forall_mem_cons.mpr ⟨⟨xt_ok_196, mw_273, mw_227, by decide +kernel, rfl, (fun h => absurd h (by decide)), rfl, by decide, by decide +kernel⟩, List.forall_mem_cons.mpr ⟨⟨xt_ok_197, mw_274, mw_227, by decide +kernel, rfl, (fun h => absurd h (by decide)), rfl, by decide, by decide +kernel⟩, List.forall_mem_cons.mpr ⟨⟨xt_ok_198, mw_275, mw_227, by decide +kernel, rfl, (fun h => absurd h (by decide)), rfl, by decide, by decide +kernel⟩, List.forall_mem_cons.mpr ⟨⟨xt_ok_199, mw_276, mw_227, by decide +kernel, rfl, (fun h => absurd h (by decide)), rfl, by decide, by decide +kernel⟩, List.forall_mem_cons.mpr ⟨⟨xt_ok_200, mw_277, mw_227, by decide +kernel, rfl, (fun h => absurd h (by decide)), rfl, by decide, by decide +kernel⟩, List.forall_mem_cons.mpr ⟨⟨xt_ok_201, mw_278, mw_227, by decide +kernel, rfl, (fun h => absurd h (by decide)), rfl, by decide, by decide +kernel⟩, List.forall_mem_cons.mpr ⟨⟨xt_ok_202, mw_279, mw_227, by decide +kernel, rfl, (fun h => absurd h (by decide)), rfl, by decide, by decide +kernel⟩, List.forall_mem_cons.mpr ⟨⟨xt_ok_203, mw_280, mw_227, by decide +kernel, rfl, (fun h => absurd h (by decide)), rfl, by decide, by decide +kernel⟩, List.forall_mem_cons.mpr ⟨⟨xt_ok_204, mw_281, mw_227, by decide +kernel, rfl, (fun h => absurd h (by decide)), rfl, by decide, by decide +kernel⟩, List.forall_mem_cons.mpr ⟨⟨xt_ok_205, mw_282, mw_227, by decide +kernel, rfl, (fun h => absurd h (by decide)), rfl, by decide, by decide +kernel⟩, List.forall_mem_cons.mpr ⟨⟨xt_ok_206, mw_283, mw_227, by decide +kernel, rfl, (fun h => absurd h (by decide)), rfl, by decide, by decide +kernel⟩, List.forall_mem_cons.mpr ⟨⟨xt_ok_207, mw_284, mw_227, by decide +kernel, rfl, (fun h => absurd h (by decide)), rfl, by decide, by decide +kernel⟩, fun _ h => absurd h List.not_mem_nil⟩⟩⟩⟩⟩⟩⟩⟩⟩⟩⟩⟩⟩⟩⟩⟩
theorem xm_ok_13 : ∀ q ∈ xMX_13, xm_G q := List.forall_mem_cons.mpr ⟨⟨xt_ok_208, mw_285, mw_227, by decide +kernel, rfl, (fun h => absurd h (by decide)), rfl, by decide, by decide +kernel⟩, List.forall_mem_cons.mpr ⟨⟨xt_ok_209, mw_286, mw_227, by decide +kernel, rfl, (fun h => absurd h (by decide)), rfl, by decide, by decide +kernel⟩, List.forall_mem_cons.mpr ⟨⟨xt_ok_210, mw_287, mw_227, by decide +kernel, rfl, (fun h => absurd h (by decide)), rfl, by decide, by decide +kernel⟩, List.forall_mem_cons.mpr ⟨⟨xt_ok_211, mw_288, mw_227, by decide +kernel, rfl, (fun h => absurd h (by decide)), rfl, by decide, by decide +kernel⟩, List.forall_mem_cons.mpr ⟨⟨xt_ok_212, mw_289, mw_227, by decide +kernel, rfl, (fun h => absurd h (by decide)), rfl, by decide, by decide +kernel⟩, List.forall_mem_cons.mpr ⟨⟨xt_ok_213, mw_290, mw_227, by decide +kernel, rfl, (fun h => absurd h (by decide)), rfl, by decide, by decide +kernel⟩, List.forall_mem_cons.mpr ⟨⟨xt_ok_214, mw_291, mw_227, by decide +kernel, rfl, (fun h => absurd h (by decide)), rfl, by decide, by decide +kernel⟩, List.forall_mem_cons.mpr ⟨⟨xt_ok_215, mw_292, mw_227, by decide +kernel, rfl, (fun h => absurd h (by decide)), rfl, by decide, by decide +kernel⟩, List.forall_mem_cons.mpr ⟨⟨xt_ok_216, mw_293, mw_227, by decide +kernel, rfl, (fun h => absurd h (by decide)), rfl, by decide, by decide +kernel⟩, List.forall_mem_cons.mpr ⟨⟨xt_ok_217, mw_294, mw_227, by decide +kernel, rfl, (fun h => absurd h (by decide)), rfl, by decide, by decide +kernel⟩, List.forall_mem_cons.mpr ⟨⟨xt_ok_218, mw_295, mw_227, by decide +kernel, rfl, (fun h => absurd h (by decide)), rfl, by decide, by decide +kernel⟩, List.forall_mem_cons.mpr ⟨⟨xt_ok_219, mw_296, mw_227, by decide +kernel, rfl, (fun h => absurd h (by decide)), rfl, by decide, by decide +kernel⟩, List.forall_mem_cons.mpr ⟨⟨xt_ok_220, mw_297, mw_227, by decide +kernel, rfl, (fun h => absurd h (by decide)), rfl, by decide, by decide +kernel⟩, List.forall_mem_cons.mpr ⟨⟨xt_ok_221, mw_298, mw_227, by decide +kernel, rfl, (fun h => absurd h (by decide)), rfl, by decide, by decide +kernel⟩, List.forall_mem_cons.mpr ⟨⟨xt_ok_222, mw_299, mw_227, by decide +kernel, rfl, (fun h => absurd h (by decide)), rfl, by decide, by decide +kernel⟩, List.forall_mem_cons.mpr ⟨⟨xt_ok_223, mw_300, mw_227, by decide +kernel, rfl, (fun h => absurd h (by decide)), rfl, by decide, by decide +kernel⟩, fun _ h => absurd h List.not_mem_nil⟩⟩⟩⟩⟩⟩⟩⟩⟩⟩⟩⟩⟩⟩⟩⟩
theorem xm_ok_14 : ∀ q ∈ xMX_14, xm_G q := List.forall_mem_cons.mpr ⟨⟨xt_ok_224, mw_301, mw_227, by decide +kernel, rfl, (fun h => absurd h (by decide)), rfl, by decide, by decide +kernel⟩, List.forall_mem_cons.mpr ⟨⟨xt_ok_225, mw_302, mw_227, by decide +kernel, rfl, (fun h => absurd h (by decide)), rfl, by decide, by decide +kernel⟩, List.forall_mem_cons.mpr ⟨⟨xt_ok_226, mw_303, mw_227, by decide +kernel, rfl, (fun h => absurd h (by decide)), rfl, by decide, by decide +kernel⟩, List.forall_mem_cons.mpr ⟨⟨xt_ok_227, mw_304, mw_227, by decide +kernel, rfl, (fun h => absurd h (by decide)), rfl, by decide, by decide +kernel⟩, List.forall_mem_cons.mpr ⟨⟨xt_ok_228, mw_305, mw_227, by decide +kernel, rfl, (fun h => absurd h (by decide)), rfl, by decide, by decide +kernel⟩, List.forall_mem_cons.mpr ⟨⟨xt_ok_229, mw_306, mw_227, by decide +kernel, rfl, (fun h => absurd h (by decide)), rfl, by decide, by decide +kernel⟩, List.forall_mem_cons.mpr ⟨⟨xt_ok_230, mw_307, mw_227, by decide +kernel, rfl, (fun h => absurd h (by decide)), rfl, by decide, by decide +kernel⟩, List.forall_mem_cons.mpr ⟨⟨xt_ok_231, mw_308, mw_227, by decide +kernel, rfl, (fun h => absurd h (by decide)), rfl, by decide, by decide +kernel⟩, List.forall_mem_cons.mpr ⟨⟨xt_ok_232, mw_309, mw_227, by decide +kernel, rfl, (fun h => absurd h (by decide)), rfl, by decide, by decide +kernel⟩, List.forall_mem_cons.mpr ⟨⟨xt_ok_233, mw_310, mw_227, by decide +kernel, rfl, (fun h => absurd h (by decide)), rfl, by decide, by decide +kernel⟩, List.forall_mem_cons.mpr ⟨⟨xt_ok_234, mw_311, mw_227, by decide +kernel, rfl, (fun h => absurd h (by decide)), rfl, by decide, by decide +kernel⟩, List.forall_mem_cons.mpr ⟨⟨xt_ok_235, mw_312, mw_227, by decide +kernel, rfl, (fun h => absurd h (by decide)), rfl, by decide, by decide +kernel⟩, List.forall_mem_cons.mpr ⟨⟨xt_ok_236, mw_313, mw_227, by decide +kernel, rfl, (fun h => absurd h (by decide)), rfl, by decide, by decide +kernel⟩, List.forall_mem_cons.mpr ⟨⟨xt_ok_237, mw_314, mw_227, by decide +kernel, rfl, (fun h => absurd h (by decide)), rfl, by decide, by decide +kernel⟩, List.forall_mem_cons.mpr ⟨⟨xt_ok_238, mw_315, mw_227, by decide +kernel, rfl, (fun h => absurd h (by decide)), rfl, by decide, by decide +kernel⟩, List.forall_mem_cons.mpr ⟨⟨xt_ok_239, mw_316, mw_317, by decide +kernel, rfl, (fun h => absurd h (by decide)), rfl, by decide, by decide +kernel⟩, fun _ h => absurd h List.not_mem_nil⟩⟩⟩⟩⟩⟩⟩⟩⟩⟩⟩⟩⟩⟩⟩⟩
theorem xm_all : ∀ r ∈ xMX, ∀ q ∈ r, xm_G q := List.forall_mem_cons.mpr ⟨xm_ok_0, List.forall_mem_cons.mpr ⟨xm_ok_1, List.forall_mem_cons.mpr ⟨xm_ok_2, List.forall_mem_cons.mpr ⟨xm_ok_3, List.forall_mem_cons.mpr ⟨xm_ok_4, List.forall_mem_cons.mpr ⟨xm_ok_5, List.forall_mem_cons.mpr ⟨xm_ok_6, List.forall_mem_cons.mpr ⟨xm_ok_7, List.forall_mem_cons.mpr ⟨xm_ok_8, List.forall_mem_cons.mpr ⟨xm_ok_9, List.forall_mem_cons.mpr ⟨xm_ok_10, List.forall_mem_cons.mpr ⟨xm_ok_11, List.forall_mem_cons.mpr ⟨xm_ok_12, List.forall_mem_cons.mpr ⟨xm_ok_13, List.forall_mem_cons.mpr ⟨xm_ok_14, fun _ h => absurd h List.not_mem_nil⟩⟩⟩⟩⟩⟩⟩⟩⟩⟩⟩⟩⟩⟩⟩
theorem xm_ok {k : Nat} {q : xME} (h : xm k = some q) : xm_G q := by
  unfold xm at h
  split at h
  · rename_i r hr
    exact xm_all r (List.mem_of_getElem? hr) q (List.mem_of_getElem? h)
  · cases h
/-- the classes whose objects are held -/
theorem xcl_ok : ∀ (ci : Nat) (C : String) (T : u_T) (N : Nat), vwCl[ci]? = some (C, T, N) → (∀ w ∈ u_ws C T N, w ∈ xWS) ∧ (∃ ty : Nat → FieldType, ∀ k, k < N → parseFieldDescriptor (T k).2.2.1 = some (ty k)) ∧ ∀ a, a < N → ∀ b, b < N → a ≠ b → (T a).2.1 ≠ (T b).2.1
  | 0, _, _, _, h => by cases h; exact ⟨ml_0, ⟨tyX0, tyX0_ok⟩, nmX0⟩
  | 1, _, _, _, h => by cases h; exact ⟨ml_1, ⟨tyX1, tyX1_ok⟩, nmX1⟩
  | 2, _, _, _, h => by cases h; exact ⟨ml_2, ⟨tyX2, tyX2_ok⟩, nmX2⟩
  | 3, _, _, _, h => by cases h; exact ⟨ml_3, ⟨tyX4, tyX4_ok⟩, nmX4⟩
  | 4, _, _, _, h => by cases h; exact ⟨ml_4, ⟨tyX5, tyX5_ok⟩, nmX5⟩
  | 5, _, _, _, h => by cases h; exact ⟨ml_5, ⟨tyX6, tyX6_ok⟩, nmX6⟩
  | 6, _, _, _, h => by cases h; exact ⟨ml_6, ⟨tyX7, tyX7_ok⟩, nmX7⟩
  | 7, _, _, _, h => by cases h; exact ⟨ml_7, ⟨tyX8, tyX8_ok⟩, nmX8⟩
  | 8, _, _, _, h => by cases h; exact ⟨ml_8, ⟨tyX9, tyX9_ok⟩, nmX9⟩
  | 9, _, _, _, h => by cases h; exact ⟨ml_9, ⟨tyX10, tyX10_ok⟩, nmX10⟩
  | 10, _, _, _, h => by cases h; exact ⟨ml_10, ⟨tyX11, tyX11_ok⟩, nmX11⟩
  | 11, _, _, _, h => by cases h; exact ⟨ml_11, ⟨tyX12, tyX12_ok⟩, nmX12⟩
  | _ + 12, _, _, _, h => nomatch h
theorem xin_ok : ∀ (ci : Nat) (C : String) (T : u_T) (N : Nat), vwCl[ci]? = some (C, T, N) → Cond.instantiable C N ∈ xWS
  | 0, _, _, _, h => by cases h; exact mw_1068
  | 1, _, _, _, h => by cases h; exact mw_1074
  | 2, _, _, _, h => by cases h; exact mw_1070
  | 3, _, _, _, h => by cases h; exact mw_1084
  | 4, _, _, _, h => by cases h; exact mw_1078
  | 5, _, _, _, h => by cases h; exact mw_1076
  | 6, _, _, _, h => by cases h; exact mw_1069
  | 7, _, _, _, h => by cases h; exact mw_1072
  | 8, _, _, _, h => by cases h; exact mw_1080
  | 9, _, _, _, h => by cases h; exact mw_1082
  | 10, _, _, _, h => by cases h; exact mw_1065
  | 11, _, _, _, h => by cases h; exact mw_1067
  | _ + 12, _, _, _, h => nomatch h
theorem xini : Cond.initialized RX11 ∈ xWS := mw_153
end
section
/-! lists and numbers in a form that the kernel counts fast -/
noncomputable def xg {α : Type} (l : List α) (n : Nat) : Option α := List.rec (motive := fun _ => Nat → Option α) (fun _ => none) (fun h _ ih n => Nat.rec (motive := fun _ => Option α) (some h) (fun m _ => ih m) n) l n
theorem xg_eq {α : Type} (l : List α) (n : Nat) : xg l n = l[n]? := by
  induction l generalizing n with
  | nil => rfl
  | cons h t ih =>
    cases n with
    | zero => rfl
    | succ n =>
      rw [List.getElem?_cons_succ, ← ih]
      rfl
noncomputable def xse {α : Type} (l : List α) (n : Nat) (v : α) : List α := List.rec (motive := fun _ => Nat → List α) (fun _ => []) (fun h t ih n => Nat.rec (motive := fun _ => List α) (v :: t) (fun m _ => h :: ih m) n) l n
theorem xse_eq {α : Type} (l : List α) (n : Nat) (v : α) : xse l n v = l.set n v := by
  induction l generalizing n with
  | nil => rfl
  | cons h t ih =>
    cases n with
    | zero => rfl
    | succ n =>
      rw [List.set_cons_succ, ← ih]
      rfl
theorem xnb (a b : Nat) : (a == b) = Nat.beq a b := by
  cases h : Nat.beq a b with
  | true => rw [Nat.eq_of_beq_eq_true h]; exact beq_self_eq_true b
  | false => exact beq_eq_false_iff_ne.mpr (Nat.ne_of_beq_eq_false h)
noncomputable def xfd {α : Type} (l : List (Nat × α)) (k : Nat) : Option (Nat × α) := List.rec (motive := fun _ => Option (Nat × α)) none (fun h _ ih => bif Nat.beq h.1 k then some h else ih) l
theorem xfd_eq {α : Type} (l : List (Nat × α)) (k : Nat) : xfd l k = l.find? (fun q => q.1 == k) := by
  induction l with
  | nil => rfl
  | cons h t ih =>
    rw [List.find?_cons]
    show (bif Nat.beq h.1 k then some h else xfd t k) = _
    rw [ih]
    rw [xnb]
    cases Nat.beq h.1 k <;> rfl
noncomputable def xln {α : Type} (l : List α) : Nat := List.rec (motive := fun _ => Nat) 0 (fun _ _ ih => Nat.succ ih) l
theorem xln_eq {α : Type} (l : List α) : xln l = l.length := by
  induction l with
  | nil => rfl
  | cons h t ih =>
    rw [List.length_cons, ← ih]
    rfl
def xlt (a b : Int32) : Bool := Nat.blt ((a.toBitVec.toNat + 2147483648) % 4294967296) ((b.toBitVec.toNat + 2147483648) % 4294967296)
theorem xlt_iff (a b : Int32) : (xlt a b = true) = (a < b) := by
  apply propext
  unfold xlt
  rw [Nat.blt_eq, Int32.lt_iff_toInt_lt]
  have ha : a.toInt = a.toBitVec.toInt := rfl
  have hb : b.toInt = b.toBitVec.toInt := rfl
  rw [ha, hb, BitVec.toInt_eq_toNat_cond, BitVec.toInt_eq_toNat_cond]
  have h1 := a.toBitVec.isLt
  have h2 := b.toBitVec.isLt
  split <;> split <;> omega
def xeq (a b : Int32) : Bool := Nat.beq a.toBitVec.toNat b.toBitVec.toNat
theorem xeq_iff (a b : Int32) : (xeq a b = true) = (a = b) := by
  apply propext
  unfold xeq
  constructor
  · intro h
    exact Int32.toBitVec_inj.mp (BitVec.eq_of_toNat_eq (Nat.eq_of_beq_eq_true h))
  · intro h
    rw [h]
    exact Nat.beq_refl _
theorem xlt_eq (a b : Int32) : xlt a b = decide (a < b) := by
  cases h : xlt a b with
  | true => exact (decide_eq_true ((xlt_iff a b).mp h)).symm
  | false => exact (decide_eq_false (fun z => by rw [(xlt_iff a b).mpr z] at h; cases h)).symm
theorem xeq_eq (a b : Int32) : xeq a b = decide (a = b) := by
  cases h : xeq a b with
  | true => exact (decide_eq_true ((xeq_iff a b).mp h)).symm
  | false => exact (decide_eq_false (fun z => by rw [(xeq_iff a b).mpr z] at h; cases h)).symm
noncomputable def xe_lkF (tb : xI) (pc : Nat) : Option (Instr × Nat) := match xg tb (pc / 16) with
  | none => none
  | some b => match xfd b pc with
    | none => none
    | some q => some q.2
theorem xe_lkF_eq (tb : xI) (pc : Nat) : xe_lkF tb pc = xe_lk tb pc := by
  unfold xe_lkF xe_lk
  rw [xg_eq]
  cases tb[pc / 16]? with
  | none => rfl
  | some b =>
    dsimp only
    rw [xfd_eq]
    cases List.find? (fun q => q.fst == pc) b <;> rfl
def xe_ltF (iv : List (Int32 × Int32)) (x y : Value) : Option Bool := match x, y with
  | .int a, .int b => some (xlt a b)
  | x, y => xe_lt iv x y
theorem xe_ltF_eq (iv : List (Int32 × Int32)) (x y : Value) : xe_ltF iv x y = xe_lt iv x y := by
  unfold xe_ltF
  split
  · rw [xlt_eq]
    rfl
  · rfl
def xe_eqF (iv : List (Int32 × Int32)) (x y : Value) : Option Bool := match x, y with
  | .int a, .int b => some (xeq a b)
  | x, y => xe_eq iv x y
theorem xe_eqF_eq (iv : List (Int32 × Int32)) (x y : Value) : xe_eqF iv x y = xe_eq iv x y := by
  unfold xe_eqF
  split
  · rw [xeq_eq]
    rfl
  · rfl
def xe_cmpF (iv : List (Int32 × Int32)) (k : ClassFile.Cond) (x y : Value) : Option Bool := match k with
  | .eq => xe_eqF iv x y
  | .ne => match xe_eqF iv x y with
    | some b => some (!b)
    | none => none
  | .lt => xe_ltF iv x y
  | .ge => match xe_ltF iv x y with
    | some b => some (!b)
    | none => none
  | .gt => xe_ltF iv y x
  | .le => match xe_ltF iv y x with
    | some b => some (!b)
    | none => none
theorem xe_cmpF_eq (iv : List (Int32 × Int32)) (k : ClassFile.Cond) (x y : Value) : xe_cmpF iv k x y = xe_cmp iv k x y := by
  unfold xe_cmpF xe_cmp
  cases k <;> simp only [xe_ltF_eq, xe_eqF_eq] <;> rfl
noncomputable def xmF (k : Nat) : Option xME := match xg xMX (k / 16) with
  | some r => xg r (k % 16)
  | none => none
theorem xmF_eq (k : Nat) : xmF k = xm k := by
  unfold xmF xm
  rw [xg_eq]
  cases xMX[k / 16]? with
  | none => rfl
  | some r =>
    dsimp only
    rw [xg_eq]
noncomputable def xfF (oc i : Nat) : Option xFE := match xg xFL oc with
  | some r => xfd r i
  | none => none
theorem xfF_eq (oc i : Nat) : xfF oc i = xf oc i := by
  unfold xfF xf
  rw [xg_eq]
  cases xFL[oc]? with
  | none => rfl
  | some r =>
    dsimp only
    rw [xfd_eq]
noncomputable def xcF (oc i : Nat) : Option xCE := match xg xCL oc with
  | some r => xfd r i
  | none => none
theorem xcF_eq (oc i : Nat) : xcF oc i = xc oc i := by
  unfold xcF xc
  rw [xg_eq]
  cases xCL[oc]? with
  | none => rfl
  | some r =>
    dsimp only
    rw [xfd_eq]
/-- words of locals that arguments take -/
noncomputable def xe_cats (as : List Value) : Nat := List.rec (motive := fun _ => Nat) 0 (fun h _ ih => Nat.add h.category ih) as
theorem xe_cats_eq (as : List Value) : xe_cats as = (lg_sl as).length := by
  induction as with
  | nil => rfl
  | cons v t ih =>
    show v.category + xe_cats t = _
    rw [ih]
    unfold lg_sl
    rw [List.flatMap_cons, List.length_append]
    rcases lv_cat v with h | h <;> simp [h]
end
section
/-! a static method that the named class inherits: a row that the kit lacks -/
theorem xs_coldUp {Q : Unit → Pre} {E : CtlPost} {e : Env} {d : Bool} {acts : List Action} {s s₀ : State} {f : JFrame} {index ci n cn : Nat} {m : MethodId} {dk ck : Class} {cf : ClassFile} {name desc : String} (hs : s.topJava?.isSome) (hp : e.platform.polymorphicOnlyByInvokevirtual = true)
    (hW : s₀.WarmedH s.vm) (hE : s₀.MethodEntryUp e s.vm f.method.cls index cn m ci) (h1 : s₀.vm.classes[f.method.cls]? = some dk) (h2 : dk.cf = some cf)
    (h3 : cf.constantPool[index]? = some (if false then .interfaceMethodref ci n else .methodref ci n)) (h4 : cf.constantPool.nameAndType? n = some (name, desc))
    (hck : s₀.vm.classes[cn]? = some ck) (hnone : (ck.methods.any fun x => x.name == name && !x.isStatic && signaturePolymorphic ck x) = false) :
    wp (invokestatic.sem index) Q E e d acts (s.setTop f) ↔ wp (invokestatic.sem index) Q E e d acts ((s.setVm (s.vm.calledUp f.method.cls ci index cn m)).setTop f) := by
  obtain ⟨hgc, hrc, hW₁, hgm⟩ := hE.classFirst
  obtain ⟨k₀, hk₀, he₀⟩ := hW.alike.2.2 _ _ h1
  obtain ⟨k₂, hk₂, he₂⟩ := hE.warmed.alike.2.2 _ _ h1
  obtain ⟨c₁, hc₁, hec₁⟩ := hW₁.alike.2.2 _ _ hck
  obtain ⟨c₂, hc₂, hec₂⟩ := hE.warmed.alike.2.2 _ _ hck
  have hb₀ := memberRef_ask_via (e := e) hk₀ (by rw [he₀]; exact h2) h3 h4
  have hb₂ := memberRef_ask_via (e := e) hk₂ (by rw [he₂]; exact h2) h3 h4
  have hn₁ : (c₁.methods.any fun x => x.name == name && !x.isStatic && signaturePolymorphic c₁ x) = false := by rw [hec₁]; exact hnone
  have hn₂ : (c₂.methods.any fun x => x.name == name && !x.isStatic && signaturePolymorphic c₂ x) = false := by rw [hec₂]; exact hnone
  have hs₁ : (s.setVm (s.vm.noted f.method.cls ci (.cls cn))).topJava?.isSome := hs
  have hs₂ : (s.setVm (s.vm.calledUp f.method.cls ci index cn m)).topJava?.isSome := hs
  have hL : ∀ {Q' : ClassId → Pre} {d' : Bool} {acts' : List Action}, wp (Jvm.resolveClassAt ci) Q' E e d' acts' (s.setTop f) ↔ Q' cn d' acts' ((s.setVm (s.vm.noted f.method.cls ci (.cls cn))).setTop f) :=
    Jvm.W.resolveClassAt_links (t := s.setTop f) (State.method?_setTop f hs) hgc
  have hM : ∀ {Q' : MethodId → Pre} {d' : Bool} {acts' : List Action}, wp (Jvm.resolveMethodAt index) Q' E e d' acts' ((s.setVm (s.vm.noted f.method.cls ci (.cls cn))).setTop f) ↔ Q' m d' acts' ((s.setVm (s.vm.calledUp f.method.cls ci index cn m)).setTop f) :=
    Jvm.W.resolveMethodAt_links (t := (s.setVm (s.vm.noted f.method.cls ci (.cls cn))).setTop f) (State.method?_setTop f hs₁) hgm
  simp [invokestatic.sem, hp, Seam.memberRefOf, State.method?_setTop f hs, State.method?_setTop f hs₂, hb₀, hb₂, hL, Jvm.W.resolveClassAt_ready (s := (s.setVm (s.vm.calledUp f.method.cls ci index cn m)).setTop f) (State.method?_setTop f hs₂) hE.classReady,
    hc₁, hc₂, hn₁, hn₂, hM, Jvm.W.resolveMethodAt_ready (s := (s.setVm (s.vm.calledUp f.method.cls ci index cn m)).setTop f) (State.method?_setTop f hs₂) hE.ready, -Array.any_eq_true]
section
variable {p : Program} {l : Launch} {e : Env} {R : Room} {s : State} {m : MethodId} {args : Array Value} {below : List Frame} {meth : Method} {c : Code} {T : State} {locs : List Loc} {cells slots : Nat}
theorem xs_static (X : Stand p l e R s m args below meth c T locs cells slots) (hexec : p.tables.exec = Jvm.exec)
    {own owner : String} {index : Nat} {x : MethodName} (hown : s.vm.findClass own = some m.cls) (hlink : (Cond.methodLink own index x).before args s = true)
    (hsame : (Cond.sameMethod x.cls owner x.name x.desc).before args s = true) (howner : owner ≠ "java/lang/invoke/MethodHandle" ∧ owner ≠ "java/lang/invoke/VarHandle")
    {m' : MethodId} {meth' : Method} {k' : Class} (hn : s.methodNamed? ⟨owner, x.name, x.desc⟩ = some m') (hm' : s.vm.method? m' = some meth') (hstatic : meth'.isStatic = true)
    (hk' : s.vm.classes[m'.cls]? = some k') (hinit : k'.init = .initialized)
    {g : JFrame} (hg : g.method = m) {argsL rest : List Value} (hlen : argsL.length = meth'.sig.parameters.length) (hstack : g.stack = argsL.reverse ++ rest)
    (hdg : decode c.code g.pc = .ok (.invokestatic index, 3)) :
    ∃ vm', Stand p l e R s m args below meth c (T.setVm vm') locs cells slots ∧
      ∀ target, (∀ acts, Steps p.tables e below (doInvoke e ((T.setVm vm').setTop { g with stack := rest }) acts m' argsL.toArray).1 target) → Steps p.tables e below (T.setTop g) target := by
  have hpl : e.platform.magicAccessors = ({} : Platform).magicAccessors := by rw [X.admits.platform]
  have hpv : e.platform.polymorphicOnlyByInvokevirtual = true := by rw [X.admits.platform]
  obtain ⟨cn, ck, r1, hcn, hck, hni, hf, hn1⟩ := Cond.sameMethod_found hsame
  cases hn.symm.trans hn1
  obtain ⟨ci, hl, hright⟩ := Cond.methodLink_specUp hown hcn hck hni hf hlink e.platform hpl (by rw [X.admits.platform])
  have hE : s.MethodEntryUp e T.vm m.cls index cn m' ci := State.methodEntryUp X.warmed hl hright
  obtain ⟨kx, hkx, hnx⟩ := className_of_methodNamed hn
  cases hk'.symm.trans hkx
  obtain ⟨dk, cfile, nt, mname, mdesc, ck', _, _, hd, hcf, hcp, hnt, -, -, hck', -, hpoly, -⟩ := hl.here
  cases hck.symm.trans hck'
  have alike := hE.warmed.alike
  obtain ⟨dk₂, hdk₂, hed₂⟩ := alike.2.2 _ _ hd
  obtain ⟨k₂, hk₂, he₂⟩ := alike.2.2 _ _ hk'
  obtain ⟨ck₂, hck₂, hec₂⟩ := alike.2.2 _ _ hck
  have hnone : (ck.methods.any fun y => y.name == mname && !y.isStatic && signaturePolymorphic ck y) = false := by simp [hpoly]
  have hnone₂ : (ck₂.methods.any fun y => y.name == mname && !y.isStatic && signaturePolymorphic ck₂ y) = false := by rw [hec₂]; exact hnone
  have hcp' : cfile.constantPool[index]? = some (if false then .interfaceMethodref ci nt else .methodref ci nt) := by simpa using hcp
  refine ⟨T.vm.calledUp m.cls ci index cn m', X.noted hE.warmed, fun target hrest => ?_⟩
  subst hg
  jvm_step X.here [hexec, hdg, xs_coldUp (e := e) (s := T) (s₀ := s) (f := g) X.here.top hpv X.warmed hE hd hcf hcp' hnt hck hnone,
    invokestatic.wp_ready (e := e) (s := T.setVm (T.vm.calledUp g.method.cls ci index cn m')) (k := k₂) (meth := meth') (m := m') (args := argsL) (rest := rest) (f := g)
      X.here.top ⟨ci, mname, mdesc, false, cn, ck₂, memberRef_ask_via (e := e) hdk₂ (by rw [hed₂]; exact hcf) hcp' hnt, hE.classReady, hck₂, hnone₂⟩ hE.ready hk₂
      (by show (T.vm.calledUp g.method.cls ci index cn m').method? m' = some meth'; rw [alike.method?]; exact hm') (by rw [he₂]; show signaturePolymorphic k' meth' = false; simp [signaturePolymorphic, hnx, howner.1, howner.2]) hstatic (by rw [he₂]; exact hinit) hlen hstack]
  exact fun acts => hrest _
variable {H : Heap}
theorem xs_runSO {y x : MethodName} {bytes cc : ByteArray} {maxL nL mc ms n index : Nat} {ret : Option FieldType} {ws : List Cond} {rm : Room} {Pc : Array Value → State → Prop} {Qc : Array Value → State → Outcome → State → Prop} {free : Addr → Prop} {Ts : List Cond} {own : String} {As rest : List Value} {g : JFrame}
    (S : CallFix p m c cc nL s args Ts own) (hM : Met l y ws rm Pc Qc mc ms free)
    (cw : (rm.cells = mc ∧ rm.slots = ms ∧ rm.frames + 1 ≤ R.frames ∧ 8 + (maxL + 11) + rm.locals ≤ R.locals ∧ (∀ w ∈ ws, ∀ (a' : Array Value) (U : State), s.WarmedH U.vm → w.before a' U = true) ∧ Cond.code y bytes maxL ret ∈ ws) ∧ (Cond.code y bytes maxL ret).before args s = true ∧ (Cond.initialized y.cls).before args s = true ∧ (y.cls ≠ "java/lang/invoke/MethodHandle" ∧ y.cls ≠ "java/lang/invoke/VarHandle") ∧ (∀ sig, parseMethodDescriptor y.desc = some sig → n = sig.parameters.length))
    (hxn : x.name = y.name) (hxd : x.desc = y.desc) (hl : (Cond.methodLink own index x).before args s = true) (hsame : (Cond.sameMethod x.cls y.cls x.name x.desc).before args s = true) (hstat : (Cond.static y).before args s = true) (hp : PreS s H Pc As)
    (hg : g.method = m) (hn : As.length = n) (hsize : g.locals.size = nL) (hstack : g.stack = As.reverse ++ rest) (hW : 2 * g.monitorRoom + (rest.map fun v => v.category).sum ≤ 8) (hdg : decode cc g.pc = .ok (.invokestatic index, 3)) (hf : cells + mc ≤ R.cells ∧ slots + ms ≤ R.slots) :
    va_Run p l e R s m args below meth c H locs cells slots mc ms g rest (Qc As.toArray) (free) := by
  obtain ⟨⟨hrc, hrs, hfr, hlo, hws, hcw⟩, hcode, hini, hy, hlen⟩ := cw
  have hK : Back l R p e below s args y 3 8 (PreOf R mc ms Pc) (PostOf Qc mc ms free) := back_of (bytes := bytes) (maxL := maxL) (ret := ret) hM hp.1 hrc hrs hfr hlo hws hcw (fun a' U hW => word_at hW (Or.inl (by first | rfl | simp [Cond.onTables, Cond.keeps, Cond.steady])) hini)
  obtain ⟨hx, hb, hml, ho, -⟩ := S
  intro T hT X
  obtain ⟨mk, hnamed⟩ := Cond.code_named hcode
  obtain ⟨methM, cM, hmethM, -, -, -, -, -, -, hsigM⟩ := Cond.code_spec hnamed hcode
  have hstatic : methM.isStatic = true := Cond.static_spec hnamed hmethM hstat
  obtain ⟨kP, hkP, -⟩ := className_of_methodNamed hnamed
  have hinitP : kP.init = .initialized := Cond.initialized_spec (findClass_of_methodNamed hnamed) hkP hini
  have hnamed' : s.methodNamed? ⟨y.cls, x.name, x.desc⟩ = some mk := by rw [hxn, hxd]; exact hnamed
  obtain ⟨vm₁, X₁, hstep₁⟩ := xs_static X hx ho hl hsame hy hnamed' hmethM hstatic hkP hinitP (g := g) hg (argsL := As) (rest := rest) (hn.trans (hlen _ hsigM)) hstack (by rw [hb]; exact hdg)
  obtain ⟨v, ⟨U', l2, c2, s2⟩, X', ⟨g', mk', t, L, e1, e2, hq, h1, hL, h2, h3⟩, hsteps⟩ := hK m meth c ⟨T.setVm vm₁, locs, cells, slots⟩ { g with stack := rest } (.invokestatic index) mk As.toArray X₁ hg (hsize.trans hml.symm) (by rw [hb]; exact hdg) hW (X₁.named hnamed) ⟨hf.1, hf.2, hp.2 (T.setVm vm₁) hT X₁.warmed⟩
  dsimp only [Pt.U, Pt.locs, Pt.cells, Pt.slots] at X' e1 e2 h1 h2 h3 hsteps
  subst h1; subst h2; subst h3
  exact ⟨v, (T.setVm vm₁).calling g' mk' As.toArray, t, U', L, hT, X', hL, e1, e2, hq, fun target h => hstep₁ _ fun acts => by rw [doInvoke_state]; exact hsteps.trans h⟩
end
end
section
/-! instructions that touch neither cells nor methods -/
def xe_tg (pc : Nat) (off : Int) : Option Nat := if (0 : Int) ≤ (pc : Int) + off then some ((pc : Int) + off).toNat else none
theorem xe_tg_ok {pc : Nat} {off : Int} {t : Nat} (h : xe_tg pc off = some t) : (pc : Int) + off = (t : Int) := by
  unfold xe_tg at h
  split at h
  · rename_i h0
    cases h
    exact (Int.toNat_of_nonneg h0).symm
  · cases h
noncomputable def xe_ld (lv : xL) (i : Nat) : Option Value := match xfd lv i with
  | some q => some q.2
  | none => none
noncomputable def xe_s1 (lv : xL) (i : Nat) (v : Value) : xL := (i, v) :: List.rec (motive := fun _ => xL) [] (fun h _ ih => bif Nat.beq h.1 i || (Nat.beq (h.1 + 1) i && Nat.beq h.2.category 2) then ih else h :: ih) lv
theorem xe_s1_eq (lv : xL) (i : Nat) (v : Value) : xe_s1 lv i v = (i, v) :: lv.filter (fun q => !(q.1 == i) && !(q.1 + 1 == i && q.2.category == 2)) := by
  unfold xe_s1
  congr 1
  induction lv with
  | nil => rfl
  | cons h t ih =>
    rw [List.filter_cons, ← ih]
    rw [xnb, xnb, xnb]
    dsimp only
    cases Nat.beq h.1 i <;> cases Nat.beq (h.1 + 1) i <;> cases Nat.beq h.2.category 2 <;> rfl
def xe_s2 (lv : xL) (i : Nat) (v : Value) : xL := (i, v) :: lv.filter (fun q => !(q.1 == i) && (!(q.1 == i + 1) && !(q.1 + 1 == i && q.2.category == 2)))
def xe_isI (v : Value) : Bool := match v with
  | .int _ => true
  | .float _ => true
  | _ => false
def xe_isL (v : Value) : Bool := match v with
  | .long _ => true
  | .double _ => true
  | _ => false
def xe_isR (v : Value) : Bool := match v with
  | .ref _ => true
  | .retAddr _ => true
  | _ => false
abbrev xF : Type := Nat × xL × List Value
def xe_jmp (t : Option Nat) (lv : xL) (st : List Value) : Option xF := match t with
  | some t => some (t, lv, st)
  | none => none
def xe_br (iv : List (Int32 × Int32)) (k : ClassFile.Cond) (off : Int) (pc : Nat) (lv : xL) (x y : Value) (r : List Value) : Option xF := match xe_tg pc off with
  | some t => match xe_cmpF iv k x y with
    | some r' => some (bif r' then t else pc + 3, lv, r)
    | none => none
  | none => none
noncomputable def xa_iconst (n : Int) (pc : Nat) (lv : xL) (st : List Value) : Option xF := some (pc + 1, lv, .int (Int32.ofInt n) :: st)
noncomputable def xa_bipush (n : Int) (pc : Nat) (lv : xL) (st : List Value) : Option xF := some (pc + 2, lv, .int (Int8.ofInt n).toInt32 :: st)
noncomputable def xa_sipush (n : Int) (pc : Nat) (lv : xL) (st : List Value) : Option xF := some (pc + 3, lv, .int (Int16.ofInt n).toInt32 :: st)
noncomputable def xa_lconst (n : Fin 2) (pc : Nat) (lv : xL) (st : List Value) : Option xF := some (pc + 1, lv, .long (Int64.ofNat (n : Nat)) :: st)
noncomputable def xa_iload_n (k : Fin 4) (pc : Nat) (lv : xL) (st : List Value) : Option xF := match xe_ld lv k with
  | some v => if xe_isI v then some (pc + 1, lv, v :: st) else none
  | none => none
noncomputable def xa_iload (k : Nat) (pc : Nat) (lv : xL) (st : List Value) : Option xF := match xe_ld lv k with
  | some v => if xe_isI v then some (pc + 2, lv, v :: st) else none
  | none => none
noncomputable def xa_lload_n (k : Fin 4) (pc : Nat) (lv : xL) (st : List Value) : Option xF := match xe_ld lv k with
  | some v => if xe_isL v then some (pc + 1, lv, v :: st) else none
  | none => none
noncomputable def xa_lload (k : Nat) (pc : Nat) (lv : xL) (st : List Value) : Option xF := match xe_ld lv k with
  | some v => if xe_isL v then some (pc + 2, lv, v :: st) else none
  | none => none
noncomputable def xa_aload_n (k : Fin 4) (pc : Nat) (lv : xL) (st : List Value) : Option xF := match xe_ld lv k with
  | some v => if xe_isR v then some (pc + 1, lv, v :: st) else none
  | none => none
noncomputable def xa_aload (k : Nat) (pc : Nat) (lv : xL) (st : List Value) : Option xF := match xe_ld lv k with
  | some v => if xe_isR v then some (pc + 2, lv, v :: st) else none
  | none => none
noncomputable def xa_istore_n (k : Fin 4) (nL : Nat) (pc : Nat) (lv : xL) (st : List Value) : Option xF := match st with
  | v :: r => if xe_isI v && decide ((k : Nat) < nL) then some (pc + 1, xe_s1 lv k v, r) else none
  | [] => none
noncomputable def xa_istore (k : Nat) (nL : Nat) (pc : Nat) (lv : xL) (st : List Value) : Option xF := match st with
  | v :: r => if xe_isI v && decide (k < nL) then some (pc + 2, xe_s1 lv k v, r) else none
  | [] => none
noncomputable def xa_lstore_n (k : Fin 4) (nL : Nat) (pc : Nat) (lv : xL) (st : List Value) : Option xF := match st with
  | v :: r => if xe_isL v && decide ((k : Nat) + 1 < nL) then some (pc + 1, xe_s2 lv k v, r) else none
  | [] => none
noncomputable def xa_lstore (k : Nat) (nL : Nat) (pc : Nat) (lv : xL) (st : List Value) : Option xF := match st with
  | v :: r => if xe_isL v && decide (k + 1 < nL) then some (pc + 2, xe_s2 lv k v, r) else none
  | [] => none
noncomputable def xa_astore_n (k : Fin 4) (nL : Nat) (pc : Nat) (lv : xL) (st : List Value) : Option xF := match st with
  | v :: r => if xe_isR v && decide ((k : Nat) < nL) then some (pc + 1, xe_s1 lv k v, r) else none
  | [] => none
noncomputable def xa_astore (k : Nat) (nL : Nat) (pc : Nat) (lv : xL) (st : List Value) : Option xF := match st with
  | v :: r => if xe_isR v && decide (k < nL) then some (pc + 2, xe_s1 lv k v, r) else none
  | [] => none
noncomputable def xa_iinc (k : Nat) (n : Int) (nL : Nat) (pc : Nat) (lv : xL) (st : List Value) : Option xF := match xe_ld lv k with
  | some (.int x) => if k < nL then some (pc + 3, xe_s1 lv k (.int (x + Int32.ofInt n)), st) else none
  | _ => none
noncomputable def xa_iadd  (pc : Nat) (lv : xL) (st : List Value) : Option xF := match st with
  | .int y :: .int x :: r => some (pc + 1, lv, .int (x + y) :: r)
  | _ => none
noncomputable def xa_isub  (pc : Nat) (lv : xL) (st : List Value) : Option xF := match st with
  | .int y :: .int x :: r => some (pc + 1, lv, .int (x - y) :: r)
  | _ => none
noncomputable def xa_imul  (pc : Nat) (lv : xL) (st : List Value) : Option xF := match st with
  | .int y :: .int x :: r => some (pc + 1, lv, .int (x * y) :: r)
  | _ => none
noncomputable def xa_iand  (a6 : Option Int32) (pc : Nat) (lv : xL) (st : List Value) : Option xF := match st with
  | .int y :: .int x :: r => some (pc + 1, lv, .int (x &&& y) :: r)
  | .int y :: .float j :: r => match a6 with
    | some v => if y = 63 ∧ j = 0 then some (pc + 1, lv, .int v :: r) else none
    | none => none
  | _ => none
noncomputable def xa_ior  (pc : Nat) (lv : xL) (st : List Value) : Option xF := match st with
  | .int y :: .int x :: r => some (pc + 1, lv, .int (x ||| y) :: r)
  | _ => none
noncomputable def xa_ishl  (pc : Nat) (lv : xL) (st : List Value) : Option xF := match st with
  | .int y :: .int x :: r => some (pc + 1, lv, .int (x <<< (y &&& 31)) :: r)
  | _ => none
noncomputable def xa_ishr  (pc : Nat) (lv : xL) (st : List Value) : Option xF := match st with
  | .int y :: .int x :: r => some (pc + 1, lv, .int (x >>> (y &&& 31)) :: r)
  | _ => none
noncomputable def xa_idiv  (pc : Nat) (lv : xL) (st : List Value) : Option xF := match st with
  | .int y :: .int x :: r => if y = 0 then none else some (pc + 1, lv, .int (x / y) :: r)
  | _ => none
noncomputable def xa_irem  (pc : Nat) (lv : xL) (st : List Value) : Option xF := match st with
  | .int y :: .int x :: r => if y = 0 then none else some (pc + 1, lv, .int (x - x / y * y) :: r)
  | _ => none
noncomputable def xa_ladd  (pc : Nat) (lv : xL) (st : List Value) : Option xF := match st with
  | .long y :: .long x :: r => some (pc + 1, lv, .long (x + y) :: r)
  | _ => none
noncomputable def xa_lmul  (pc : Nat) (lv : xL) (st : List Value) : Option xF := match st with
  | .long y :: .long x :: r => some (pc + 1, lv, .long (x * y) :: r)
  | _ => none
noncomputable def xa_ldiv  (pc : Nat) (lv : xL) (st : List Value) : Option xF := match st with
  | .long y :: .long x :: r => if y = 0 then none else some (pc + 1, lv, .long (x / y) :: r)
  | _ => none
noncomputable def xa_lrem  (pc : Nat) (lv : xL) (st : List Value) : Option xF := match st with
  | .long y :: .long x :: r => if y = 0 then none else some (pc + 1, lv, .long (x - x / y * y) :: r)
  | _ => none
noncomputable def xa_lcmp  (iv : List (Int32 × Int32)) (pc : Nat) (lv : xL) (st : List Value) : Option xF := match st with
  | .long y :: .long x :: r => some (pc + 1, lv, .int (lg_cmp x y) :: r)
  | .long y :: .double j :: r => match iv[j.toNat]? with
    | some q => if q.2.toInt64 < y then some (pc + 1, lv, .int (-1) :: r) else if y < q.1.toInt64 then some (pc + 1, lv, .int 1 :: r) else none
    | none => none
  | _ => none
noncomputable def xa_i2l  (pc : Nat) (lv : xL) (st : List Value) : Option xF := match st with
  | .int x :: r => some (pc + 1, lv, .long x.toInt64 :: r)
  | .float j :: r => some (pc + 1, lv, .double j.toUInt64 :: r)
  | _ => none
noncomputable def xa_l2i  (pc : Nat) (lv : xL) (st : List Value) : Option xF := match st with
  | .long x :: r => some (pc + 1, lv, .int x.toInt32 :: r)
  | _ => none
noncomputable def xa_i2b  (pc : Nat) (lv : xL) (st : List Value) : Option xF := match st with
  | .int x :: r => some (pc + 1, lv, .int x.toInt8.toInt32 :: r)
  | _ => none
noncomputable def xa_ldc (k : Nat) (oc : Nat) (pc : Nat) (lv : xL) (st : List Value) : Option xF := match xk oc k with
  | some (_, .int v) => some (pc + 2, lv, .int v :: st)
  | _ => none
noncomputable def xa_ldc_w (k : Nat) (oc : Nat) (pc : Nat) (lv : xL) (st : List Value) : Option xF := match xk oc k with
  | some (_, .int v) => some (pc + 3, lv, .int v :: st)
  | _ => none
noncomputable def xa_iushr  (pc : Nat) (lv : xL) (st : List Value) : Option xF := match st with
  | .int y :: .int x :: r => some (pc + 1, lv, .int (x.toUInt32 >>> (y.toUInt32 &&& Int32.toUInt32 31)).toInt32 :: r)
  | _ => none
noncomputable def xa_ldc2_w (k : Nat) (oc : Nat) (pc : Nat) (lv : xL) (st : List Value) : Option xF := match xk oc k with
  | some (_, .long v) => some (pc + 3, lv, .long v :: st)
  | _ => none
noncomputable def xa_dup  (pc : Nat) (lv : xL) (st : List Value) : Option xF := match st with
  | v :: r => if v.category = 1 then some (pc + 1, lv, v :: v :: r) else none
  | [] => none
noncomputable def xa_dup2  (pc : Nat) (lv : xL) (st : List Value) : Option xF := match st with
  | v :: w :: r => if v.category = 1 ∧ w.category = 1 then some (pc + 1, lv, v :: w :: v :: w :: r) else none
  | _ => none
noncomputable def xa_pop  (pc : Nat) (lv : xL) (st : List Value) : Option xF := match st with
  | v :: r => if v.category = 1 then some (pc + 1, lv, r) else none
  | [] => none
noncomputable def xa_pop2  (pc : Nat) (lv : xL) (st : List Value) : Option xF := match st with
  | v :: r => if v.category = 2 then some (pc + 1, lv, r) else none
  | [] => none
noncomputable def xa_goto (off : Int) (pc : Nat) (lv : xL) (st : List Value) : Option xF := xe_jmp (xe_tg pc off) lv st
noncomputable def xa_if_icmp (k : ClassFile.Cond) (off : Int) (iv : List (Int32 × Int32)) (pc : Nat) (lv : xL) (st : List Value) : Option xF := match st with
  | y :: x :: r => xe_br iv k off pc lv x y r
  | _ => none
noncomputable def xa_ifCond (k : ClassFile.Cond) (off : Int) (iv : List (Int32 × Int32)) (pc : Nat) (lv : xL) (st : List Value) : Option xF := match st with
  | x :: r => xe_br iv k off pc lv x (.int 0) r
  | _ => none
noncomputable def xa_tableswitch (d : Int) (lo : Int) (hi : Int) (offs : Array Int) (iv : List (Int32 × Int32)) (pc : Nat) (lv : xL) (st : List Value) : Option xF := match st with
  | .int x :: r => if x.toInt < lo ∨ hi < x.toInt then xe_jmp (xe_tg pc d) lv r else match offs[(x.toInt - lo).toNat]? with
    | some off => xe_jmp (xe_tg pc off) lv r
    | none => none
  | .float j :: r => match iv[j.toNat]? with
    | some q => if q.2.toInt < lo ∨ hi < q.1.toInt then xe_jmp (xe_tg pc d) lv r else none
    | none => none
  | _ => none
noncomputable def xe_step1 (iv : List (Int32 × Int32)) (a6 : Option Int32) (oc nL : Nat) (i : Instr) (pc : Nat) (lv : xL) (st : List Value) : Option xF := match i with
  | .iconst n => xa_iconst n pc lv st
  | .bipush n => xa_bipush n pc lv st
  | .sipush n => xa_sipush n pc lv st
  | .lconst n => xa_lconst n pc lv st
  | .iload_n k => xa_iload_n k pc lv st
  | .iload k => xa_iload k pc lv st
  | .lload_n k => xa_lload_n k pc lv st
  | .lload k => xa_lload k pc lv st
  | .aload_n k => xa_aload_n k pc lv st
  | .aload k => xa_aload k pc lv st
  | .istore_n k => xa_istore_n k nL pc lv st
  | .istore k => xa_istore k nL pc lv st
  | .lstore_n k => xa_lstore_n k nL pc lv st
  | .lstore k => xa_lstore k nL pc lv st
  | .astore_n k => xa_astore_n k nL pc lv st
  | .astore k => xa_astore k nL pc lv st
  | .iinc k n => xa_iinc k n nL pc lv st
  | .iadd => xa_iadd pc lv st
  | .isub => xa_isub pc lv st
  | .imul => xa_imul pc lv st
  | .iand => xa_iand a6 pc lv st
  | .ior => xa_ior pc lv st
  | .ishl => xa_ishl pc lv st
  | .ishr => xa_ishr pc lv st
  | .idiv => xa_idiv pc lv st
  | .irem => xa_irem pc lv st
  | .ladd => xa_ladd pc lv st
  | .lmul => xa_lmul pc lv st
  | .ldiv => xa_ldiv pc lv st
  | .lrem => xa_lrem pc lv st
  | .lcmp => xa_lcmp iv pc lv st
  | .i2l => xa_i2l pc lv st
  | .l2i => xa_l2i pc lv st
  | .i2b => xa_i2b pc lv st
  | .ldc k => xa_ldc k oc pc lv st
  | .ldc_w k => xa_ldc_w k oc pc lv st
  | .iushr => xa_iushr pc lv st
  | .ldc2_w k => xa_ldc2_w k oc pc lv st
  | .dup => xa_dup pc lv st
  | .dup2 => xa_dup2 pc lv st
  | .pop => xa_pop pc lv st
  | .pop2 => xa_pop2 pc lv st
  | .goto off => xa_goto off pc lv st
  | .if_icmp k off => xa_if_icmp k off iv pc lv st
  | .ifCond k off => xa_ifCond k off iv pc lv st
  | .tableswitch d lo hi offs => xa_tableswitch d lo hi offs iv pc lv st
  | _ => none
abbrev xe_lm (b : Nat → Nat) (B : Nat) (xs : Nat → Int32) (lv : xL) : xL := lv.map (fun q => (q.1, xe_cv b B xs q.2))
theorem xe_filter {b : Nat → Nat} {B : Nat} {xs : Nat → Int32} (P : Nat → Nat → Bool) (lv : xL) : (xe_lm b B xs lv).filter (fun q => P q.1 q.2.category) = xe_lm b B xs (lv.filter (fun q => P q.1 q.2.category)) := by
  induction lv with
  | nil => rfl
  | cons q t ih =>
    have h : P (q.1) (xe_cv b B xs q.2).category = P q.1 q.2.category := by rw [xe_cat]
    simp only [xe_lm, List.map_cons, List.filter_cons] at ih ⊢
    rw [h]
    split
    · rw [List.map_cons, ih]
    · exact ih
theorem xe_s1_map {b : Nat → Nat} {B : Nat} {xs : Nat → Int32} (lv : xL) (i : Nat) (v : Value) : (i, xe_cv b B xs v) :: (xe_lm b B xs lv).filter (fun q => !(q.1 == i) && !(q.1 + 1 == i && q.2.category == 2)) = xe_lm b B xs (xe_s1 lv i v) := by
  rw [xe_filter (fun a c => !(a == i) && !(a + 1 == i && c == 2)), xe_s1_eq]
  rfl
theorem xe_s2_map {b : Nat → Nat} {B : Nat} {xs : Nat → Int32} (lv : xL) (i : Nat) (v : Value) : (i, xe_cv b B xs v) :: (xe_lm b B xs lv).filter (fun q => !(q.1 == i) && (!(q.1 == i + 1) && !(q.1 + 1 == i && q.2.category == 2))) = xe_lm b B xs (xe_s2 lv i v) := by
  rw [xe_filter (fun a c => !(a == i) && (!(a == i + 1) && !(a + 1 == i && c == 2)))]
  rfl
theorem xe_ld_mem {lv : xL} {i : Nat} {v : Value} (h : xe_ld lv i = some v) : (i, v) ∈ lv := by
  unfold xe_ld at h
  rw [xfd_eq] at h
  split at h
  · rename_i q hq
    cases h
    have h1 : q.1 = i := by simpa using List.find?_some hq
    rw [← h1]
    exact List.mem_of_find?_eq_some hq
  · cases h
theorem xe_ld_ok {b : Nat → Nat} {B : Nat} {xs : Nat → Int32} {lv : xL} {ls : Array Slot} {nL i : Nat} {v : Value} (h : xe_ld lv i = some v) (hl : lv_has ls nL (xe_lm b B xs lv)) : ls[i]? = some (.val (xe_cv b B xs v)) :=
  hl.2.2 (i, xe_cv b B xs v) (List.mem_map.mpr ⟨(i, v), xe_ld_mem h, rfl⟩)
theorem xe_isI_ok {b : Nat → Nat} {B : Nat} {xs : Nat → Int32} {v : Value} (h : xe_isI v = true) : ∃ x, xe_cv b B xs v = .int x := by
  cases v <;> first | exact ⟨_, rfl⟩ | cases h
theorem xe_isL_ok {b : Nat → Nat} {B : Nat} {xs : Nat → Int32} {v : Value} (h : xe_isL v = true) : ∃ x, xe_cv b B xs v = .long x := by
  cases v <;> first | exact ⟨_, rfl⟩ | cases h
theorem xe_isR_ok {b : Nat → Nat} {B : Nat} {xs : Nat → Int32} {v : Value} (h : xe_isR v = true) : ∃ x, xe_cv b B xs v = .ref x := by
  cases v <;> first | exact ⟨_, rfl⟩ | cases h
section
variable {p : Program} {l : Launch} {e : Env} {R : Room} {s : State} {m : MethodId} {args : Array Value} {below : List Frame} {meth : Method} {c : Code} {H : Heap} {locs : List Loc} {cells slots : Nat} {Q : State → Prop}
variable {cc : ByteArray} {pc : Nat} {ls : Array Slot} {rest : List Value}
theorem xe_icmp (hx : p.tables.exec = Jvm.exec) (hb : c.code = cc) {k : ClassFile.Cond} {x y : Int32} {off : Int} {tgt : Nat} {r : Bool} (hd : decode cc pc = .ok (.if_icmp k off, 3)) (ht : (pc : Int) + off = (tgt : Int)) (hr : xe_holds k x y = r)
    (kk : W p l e R s m args below meth c H locs cells slots Q (F0 m (bif r then tgt else pc + 3) ls rest)) : W p l e R s m args below meth c H locs cells slots Q (F0 m pc ls (.int y :: .int x :: rest)) := by
  cases r with
  | true =>
    cases k with
    | eq => exact lv_icmp_eq hx hb hd ht (fun _ => kk) (fun q => absurd (of_decide_eq_true hr) q)
    | ne => exact lv_icmp_ne hx hb hd ht (fun _ => kk) (fun q => absurd q (of_decide_eq_true hr))
    | lt => exact lv_icmp_lt hx hb hd ht (fun _ => kk) (fun q => absurd (of_decide_eq_true hr) q)
    | ge => exact lv_icmp_ge hx hb hd ht (fun _ => kk) (fun q => absurd (of_decide_eq_true hr) q)
    | gt => exact lv_icmp_gt hx hb hd ht (fun _ => kk) (fun q => absurd (of_decide_eq_true hr) q)
    | le => exact lv_icmp_le hx hb hd ht (fun _ => kk) (fun q => absurd (of_decide_eq_true hr) q)
  | false =>
    cases k with
    | eq => exact lv_icmp_eq hx hb hd ht (fun q => absurd q (of_decide_eq_false hr)) (fun _ => kk)
    | ne => exact lv_icmp_ne hx hb hd ht (fun q => absurd q (of_decide_eq_false hr)) (fun _ => kk)
    | lt => exact lv_icmp_lt hx hb hd ht (fun q => absurd q (of_decide_eq_false hr)) (fun _ => kk)
    | ge => exact lv_icmp_ge hx hb hd ht (fun q => absurd q (of_decide_eq_false hr)) (fun _ => kk)
    | gt => exact lv_icmp_gt hx hb hd ht (fun q => absurd q (of_decide_eq_false hr)) (fun _ => kk)
    | le => exact lv_icmp_le hx hb hd ht (fun q => absurd q (of_decide_eq_false hr)) (fun _ => kk)
theorem xe_icmp0 (hx : p.tables.exec = Jvm.exec) (hb : c.code = cc) {k : ClassFile.Cond} {x : Int32} {off : Int} {tgt : Nat} {r : Bool} (hd : decode cc pc = .ok (.ifCond k off, 3)) (ht : (pc : Int) + off = (tgt : Int)) (hr : xe_holds k x 0 = r)
    (kk : W p l e R s m args below meth c H locs cells slots Q (F0 m (bif r then tgt else pc + 3) ls rest)) : W p l e R s m args below meth c H locs cells slots Q (F0 m pc ls (.int x :: rest)) := by
  cases r with
  | true =>
    cases k with
    | eq => exact lv_if_eq hx hb hd ht (fun _ => kk) (fun q => absurd (of_decide_eq_true hr) q)
    | ne => exact lv_if_ne hx hb hd ht (fun _ => kk) (fun q => absurd q (of_decide_eq_true hr))
    | lt => exact lv_if_lt hx hb hd ht (fun _ => kk) (fun q => absurd (of_decide_eq_true hr) q)
    | ge => exact lv_if_ge hx hb hd ht (fun _ => kk) (fun q => absurd (of_decide_eq_true hr) q)
    | gt => exact lv_if_gt hx hb hd ht (fun _ => kk) (fun q => absurd (of_decide_eq_true hr) q)
    | le => exact lv_if_le hx hb hd ht (fun _ => kk) (fun q => absurd (of_decide_eq_true hr) q)
  | false =>
    cases k with
    | eq => exact lv_if_eq hx hb hd ht (fun q => absurd q (of_decide_eq_false hr)) (fun _ => kk)
    | ne => exact lv_if_ne hx hb hd ht (fun q => absurd q (of_decide_eq_false hr)) (fun _ => kk)
    | lt => exact lv_if_lt hx hb hd ht (fun q => absurd q (of_decide_eq_false hr)) (fun _ => kk)
    | ge => exact lv_if_ge hx hb hd ht (fun q => absurd q (of_decide_eq_false hr)) (fun _ => kk)
    | gt => exact lv_if_gt hx hb hd ht (fun q => absurd q (of_decide_eq_false hr)) (fun _ => kk)
    | le => exact lv_if_le hx hb hd ht (fun q => absurd q (of_decide_eq_false hr)) (fun _ => kk)
variable {b : Nat → Nat} {B : Nat} {xs : Nat → Int32} {iv : List (Int32 × Int32)} {a6 : Option Int32} {oc nL : Nat}
theorem xe_jmp_ok {t : Option Nat} {lv : xL} {st : List Value} {f : xF} (h : xe_jmp t lv st = some f) : ∃ t', t = some t' ∧ f = (t', lv, st) := by
  unfold xe_jmp at h
  split at h
  · cases h
    exact ⟨_, rfl, rfl⟩
  · cases h
theorem xe_br_ok {k : ClassFile.Cond} {off : Int} {lv : xL} {x y : Value} {r : List Value} {f : xF} (hi : xe_in iv xs) (h : xe_br iv k off pc lv x y r = some f) : ∃ (t : Nat) (r' : Bool) (a d : Int32), (pc : Int) + off = (t : Int) ∧ xe_cv b B xs x = .int a ∧ xe_cv b B xs y = .int d ∧ xe_holds k a d = r' ∧ f = (bif r' then t else pc + 3, lv, r) := by
  unfold xe_br at h
  rw [xe_cmpF_eq] at h
  split at h
  · rename_i t ht
    split at h
    · rename_i r' hr
      cases h
      obtain ⟨a, d, h1, h2, h3⟩ := xe_cmp_ok (b := b) (B := B) hi hr
      exact ⟨t, r', a, d, xe_tg_ok ht, h1, h2, h3, rfl⟩
    · cases h
  · cases h
set_option maxHeartbeats 4000000 in
theorem xe_step1_ok (hx : p.tables.exec = Jvm.exec) (hb : c.code = cc) (hown : s.vm.findClass (RO oc) = some m.cls) (hts : ∀ w ∈ xWS, w.before args s = true) (hi : xe_in iv xs) (h6 : ∀ v, a6 = some v → xs 0 &&& 63 = v) {i : Instr} {len : Nat} {lv : xL} {st : List Value} {f : xF} (hd : decode cc pc = .ok (i, xe_len i len)) (hl : lv_has ls nL (xe_lm b B xs lv)) (h : xe_step1 iv a6 oc nL i pc lv st = some f)
    (k : ∀ ls' : Array Slot, lv_has ls' nL (xe_lm b B xs f.2.1) → W p l e R s m args below meth c H locs cells slots Q (F0 m f.1 ls' (f.2.2.map (xe_cv b B xs)))) : W p l e R s m args below meth c H locs cells slots Q (F0 m pc ls (st.map (xe_cv b B xs))) := by
  have ld : ∀ {n : Nat} {v : Value}, xe_ld lv n = some v → ls[n]? = some (.val (xe_cv b B xs v)) := fun q => xe_ld_ok q hl
  unfold xe_step1 at h
  split at h
  · unfold xa_iconst at h
    cases h
    exact lv_iconst hx hb hd rfl (k ls hl)
  · unfold xa_bipush at h
    cases h
    exact lv_bipush hx hb hd rfl (k ls hl)
  · unfold xa_sipush at h
    cases h
    exact lv_sipush hx hb hd rfl (k ls hl)
  · unfold xa_lconst at h
    cases h
    exact lv_lconst hx hb hd rfl (k ls hl)
  · unfold xa_iload_n at h
    split at h
    · rename_i v hv
      split at h
      · rename_i hI
        cases h
        have h2 := ld hv
        have h3 := k ls hl
        obtain ⟨x, ex⟩ := xe_isI_ok (b := b) (B := B) (xs := xs) hI
        rw [List.map_cons, ex] at h3
        rw [ex] at h2
        exact lv_iload_n hx hb hd rfl h2 h3
      · cases h
    · cases h
  · unfold xa_iload at h
    split at h
    · rename_i v hv
      split at h
      · rename_i hI
        cases h
        have h2 := ld hv
        have h3 := k ls hl
        obtain ⟨x, ex⟩ := xe_isI_ok (b := b) (B := B) (xs := xs) hI
        rw [List.map_cons, ex] at h3
        rw [ex] at h2
        exact lv_iload hx hb hd h2 h3
      · cases h
    · cases h
  · unfold xa_lload_n at h
    split at h
    · rename_i v hv
      split at h
      · rename_i hI
        cases h
        have h2 := ld hv
        have h3 := k ls hl
        obtain ⟨x, ex⟩ := xe_isL_ok (b := b) (B := B) (xs := xs) hI
        rw [List.map_cons, ex] at h3
        rw [ex] at h2
        exact lv_lload_n hx hb hd rfl h2 h3
      · cases h
    · cases h
  · unfold xa_lload at h
    split at h
    · rename_i v hv
      split at h
      · rename_i hI
        cases h
        have h2 := ld hv
        have h3 := k ls hl
        obtain ⟨x, ex⟩ := xe_isL_ok (b := b) (B := B) (xs := xs) hI
        rw [List.map_cons, ex] at h3
        rw [ex] at h2
        exact lv_lload hx hb hd h2 h3
      · cases h
    · cases h
  · unfold xa_aload_n at h
    split at h
    · rename_i v hv
      split at h
      · rename_i hI
        cases h
        have h2 := ld hv
        have h3 := k ls hl
        obtain ⟨x, ex⟩ := xe_isR_ok (b := b) (B := B) (xs := xs) hI
        rw [List.map_cons, ex] at h3
        rw [ex] at h2
        exact lv_aload_n hx hb hd rfl h2 h3
      · cases h
    · cases h
  · unfold xa_aload at h
    split at h
    · rename_i v hv
      split at h
      · rename_i hI
        cases h
        have h2 := ld hv
        have h3 := k ls hl
        obtain ⟨x, ex⟩ := xe_isR_ok (b := b) (B := B) (xs := xs) hI
        rw [List.map_cons, ex] at h3
        rw [ex] at h2
        exact lv_aload hx hb hd h2 h3
      · cases h
    · cases h
  · unfold xa_istore_n at h
    split at h
    · rename_i v r
      split at h
      · rename_i hI
        cases h
        rw [Bool.and_eq_true] at hI
        obtain ⟨x, ex⟩ := xe_isI_ok (b := b) (B := B) (xs := xs) hI.1
        rw [List.map_cons, ex]
        exact lv_istore_n hx hb hd rfl hl (of_decide_eq_true hI.2) (by rw [← ex]; exact xe_s1_map lv _ v) k
      · cases h
    · cases h
  · unfold xa_istore at h
    split at h
    · rename_i v r
      split at h
      · rename_i hI
        cases h
        rw [Bool.and_eq_true] at hI
        obtain ⟨x, ex⟩ := xe_isI_ok (b := b) (B := B) (xs := xs) hI.1
        rw [List.map_cons, ex]
        exact lv_istore hx hb hd hl (of_decide_eq_true hI.2) (by rw [← ex]; exact xe_s1_map lv _ v) k
      · cases h
    · cases h
  · unfold xa_lstore_n at h
    split at h
    · rename_i v r
      split at h
      · rename_i hI
        cases h
        rw [Bool.and_eq_true] at hI
        obtain ⟨x, ex⟩ := xe_isL_ok (b := b) (B := B) (xs := xs) hI.1
        rw [List.map_cons, ex]
        exact lv_lstore_n hx hb hd rfl hl (of_decide_eq_true hI.2) (by rw [← ex]; exact xe_s2_map lv _ v) k
      · cases h
    · cases h
  · unfold xa_lstore at h
    split at h
    · rename_i v r
      split at h
      · rename_i hI
        cases h
        rw [Bool.and_eq_true] at hI
        obtain ⟨x, ex⟩ := xe_isL_ok (b := b) (B := B) (xs := xs) hI.1
        rw [List.map_cons, ex]
        exact lv_lstore hx hb hd hl (of_decide_eq_true hI.2) (by rw [← ex]; exact xe_s2_map lv _ v) k
      · cases h
    · cases h
  · unfold xa_astore_n at h
    split at h
    · rename_i v r
      split at h
      · rename_i hI
        cases h
        rw [Bool.and_eq_true] at hI
        obtain ⟨x, ex⟩ := xe_isR_ok (b := b) (B := B) (xs := xs) hI.1
        rw [List.map_cons, ex]
        exact lv_astore_n hx hb hd rfl hl (of_decide_eq_true hI.2) (by rw [← ex]; exact xe_s1_map lv _ v) k
      · cases h
    · cases h
  · unfold xa_astore at h
    split at h
    · rename_i v r
      split at h
      · rename_i hI
        cases h
        rw [Bool.and_eq_true] at hI
        obtain ⟨x, ex⟩ := xe_isR_ok (b := b) (B := B) (xs := xs) hI.1
        rw [List.map_cons, ex]
        exact lv_astore hx hb hd hl (of_decide_eq_true hI.2) (by rw [← ex]; exact xe_s1_map lv _ v) k
      · cases h
    · cases h
  · unfold xa_iinc at h
    split at h
    · rename_i x hv
      split at h
      · rename_i hI
        cases h
        have hm : (_, Value.int x) ∈ xe_lm b B xs lv := List.mem_map.mpr ⟨(_, .int x), xe_ld_mem hv, rfl⟩
        obtain ⟨n, hn⟩ := List.getElem?_of_mem hm
        exact lv_iinc hx hb hd hl hn rfl hI (xe_s1_map lv _ (.int _)) k
      · cases h
    · cases h
  · unfold xa_iadd at h
    split at h
    · cases h
      exact lv_iadd hx hb hd (k ls hl)
    · cases h
  · unfold xa_isub at h
    split at h
    · cases h
      exact lv_isub hx hb hd (k ls hl)
    · cases h
  · unfold xa_imul at h
    split at h
    · cases h
      exact lv_imul hx hb hd (k ls hl)
    · cases h
  · unfold xa_iand at h
    split at h
    · cases h
      exact lv_iand hx hb hd (k ls hl)
    · split at h
      · rename_i v
        split at h
        · rename_i h0
          cases h
          obtain ⟨rfl, rfl⟩ := h0
          have h3 := k ls hl
          rw [List.map_cons, show xe_cv b B xs (.int v) = .int v from rfl, ← h6 v rfl] at h3
          exact lv_iand hx hb hd h3
        · cases h
      · cases h
    · cases h
  · unfold xa_ior at h
    split at h
    · cases h
      exact lv_ior hx hb hd (k ls hl)
    · cases h
  · unfold xa_ishl at h
    split at h
    · cases h
      exact lv_ishl hx hb hd (k ls hl)
    · cases h
  · unfold xa_ishr at h
    split at h
    · cases h
      exact lv_ishr hx hb hd (k ls hl)
    · cases h
  · unfold xa_idiv at h
    split at h
    · split at h
      · cases h
      · rename_i h0
        cases h
        exact lv_idiv hx hb hd h0 (k ls hl)
    · cases h
  · unfold xa_irem at h
    split at h
    · split at h
      · cases h
      · rename_i h0
        cases h
        exact lv_irem hx hb hd h0 (k ls hl)
    · cases h
  · unfold xa_ladd at h
    split at h
    · cases h
      exact lv_ladd hx hb hd (k ls hl)
    · cases h
  · unfold xa_lmul at h
    split at h
    · cases h
      exact lv_lmul hx hb hd (k ls hl)
    · cases h
  · unfold xa_ldiv at h
    split at h
    · split at h
      · cases h
      · rename_i h0
        cases h
        exact lv_ldiv hx hb hd h0 (k ls hl)
    · cases h
  · unfold xa_lrem at h
    split at h
    · split at h
      · cases h
      · rename_i h0
        cases h
        exact lv_lrem hx hb hd h0 (k ls hl)
    · cases h
  · unfold xa_lcmp at h
    split at h
    · cases h
      exact W.lcmp hx hb hd (k ls hl)
    · rename_i y j r
      split at h
      · rename_i q hq
        have h1 := hi _ q hq
        rw [Int32.le_iff_toInt_le, Int32.le_iff_toInt_le] at h1
        split at h
        · rename_i h2
          cases h
          rw [Int64.lt_iff_toInt_lt, Int32.toInt_toInt64] at h2
          have h3 := k ls hl
          have h4 : lg_cmp (xs j.toNat).toInt64 y = -1 := by
            unfold lg_cmp
            rw [if_neg, if_neg]
            · intro q
              rw [← q, Int32.toInt_toInt64] at h2
              omega
            · rw [gt_iff_lt, Int64.lt_iff_toInt_lt, Int32.toInt_toInt64]
              omega
          rw [← h4] at h3
          exact W.lcmp hx hb hd h3
        · split at h
          · rename_i h2
            cases h
            rw [Int64.lt_iff_toInt_lt, Int32.toInt_toInt64] at h2
            have h3 := k ls hl
            have h4 : lg_cmp (xs j.toNat).toInt64 y = 1 := by
              unfold lg_cmp
              rw [if_pos]
              rw [gt_iff_lt, Int64.lt_iff_toInt_lt, Int32.toInt_toInt64]
              omega
            rw [← h4] at h3
            exact W.lcmp hx hb hd h3
          · cases h
      · cases h
    · cases h
  · unfold xa_i2l at h
    split at h
    · cases h
      exact lv_i2l hx hb hd rfl (k ls hl)
    · rename_i j r
      cases h
      exact lv_i2l (x := xs j.toNat) (v := (xs j.toUInt64.toNat).toInt64) hx hb hd (by rw [UInt32.toNat_toUInt64]) (k ls hl)
    · cases h
  · unfold xa_l2i at h
    split at h
    · cases h
      exact lv_l2i hx hb hd rfl (k ls hl)
    · cases h
  · unfold xa_i2b at h
    split at h
    · cases h
      exact lv_i2b hx hb hd rfl (k ls hl)
    · cases h
  · unfold xa_ldc at h
    split at h
    · rename_i v hv
      cases h
      obtain ⟨h1, h2⟩ := xk_ok hv
      dsimp only at h2
      subst h2
      exact lv_ldc hx hb hown (hts _ h1) hd (k ls hl)
    · cases h
  · unfold xa_ldc_w at h
    split at h
    · rename_i v hv
      cases h
      obtain ⟨h1, h2⟩ := xk_ok hv
      dsimp only at h2
      subst h2
      exact lv_ldcw hx hb hown (hts _ h1) hd (k ls hl)
    · cases h
  · unfold xa_iushr at h
    split at h
    · cases h
      exact lv_iushr hx hb hd rfl (k ls hl)
    · cases h
  · unfold xa_ldc2_w at h
    split at h
    · rename_i v hv
      cases h
      obtain ⟨h1, h2⟩ := xk_ok hv
      dsimp only at h2
      subst h2
      exact lv_ldc2 hx hb hown (hts _ h1) hd (k ls hl)
    · cases h
  · unfold xa_dup at h
    split at h
    · split at h
      · rename_i h0
        cases h
        exact lv_dup hx hb hd (by rw [xe_cat]; exact h0) (k ls hl)
      · cases h
    · cases h
  · unfold xa_dup2 at h
    split at h
    · split at h
      · rename_i h0
        cases h
        exact lv_dup2_11 hx hb hd (by rw [xe_cat]; exact h0.1) (by rw [xe_cat]; exact h0.2) (k ls hl)
      · cases h
    · cases h
  · unfold xa_pop at h
    split at h
    · split at h
      · rename_i h0
        cases h
        exact lv_pop hx hb hd (by rw [xe_cat]; exact h0) (k ls hl)
      · cases h
    · cases h
  · unfold xa_pop2 at h
    split at h
    · split at h
      · rename_i h0
        cases h
        exact lv_pop2_2 hx hb hd (by rw [xe_cat]; exact h0) (k ls hl)
      · cases h
    · cases h
  · unfold xa_goto at h
    obtain ⟨t, ht, rfl⟩ := xe_jmp_ok h
    exact lv_goto hx hb hd (xe_tg_ok ht) (k ls hl)
  · unfold xa_if_icmp at h
    split at h
    · obtain ⟨t, r', a, d, ht, h1, h2, h3, rfl⟩ := xe_br_ok (b := b) (B := B) hi h
      rw [List.map_cons, List.map_cons, h1, h2]
      exact xe_icmp hx hb hd ht h3 (k ls hl)
    · cases h
  · unfold xa_ifCond at h
    split at h
    · obtain ⟨t, r', a, d, ht, h1, h2, h3, rfl⟩ := xe_br_ok (b := b) (B := B) hi h
      have h2 : (0 : Int32) = d := Value.int.inj h2
      subst h2
      rw [List.map_cons, h1]
      exact xe_icmp0 hx hb hd ht h3 (k ls hl)
    · cases h
  · unfold xa_tableswitch at h
    split at h
    · split at h
      · rename_i h0
        obtain ⟨t, ht, rfl⟩ := xe_jmp_ok h
        exact lv_tableOut hx hb hd h0 (xe_tg_ok ht) (k ls hl)
      · rename_i h0
        split at h
        · rename_i off ho
          obtain ⟨t, ht, rfl⟩ := xe_jmp_ok h
          exact lv_tableIn hx hb hd (fun q => h0 (Or.inl q)) (fun q => h0 (Or.inr q)) ho (xe_tg_ok ht) (k ls hl)
        · cases h
    · split at h
      · rename_i q hq
        have h1 := hi _ q hq
        rw [Int32.le_iff_toInt_le, Int32.le_iff_toInt_le] at h1
        split at h
        · rename_i h0
          obtain ⟨t, ht, rfl⟩ := xe_jmp_ok h
          exact lv_tableOut hx hb hd (by omega) (xe_tg_ok ht) (k ls hl)
        · cases h
      · cases h
    · cases h
  · cases h
end
end
section
/-! cells: what the pure machine's memory means, and the instructions that read and write it -/
def xe_iof (v : Value) : Int32 := match v with
  | .int x => x
  | _ => 0
def xe_rof (v : Value) : Option Nat := match v with
  | .ref a => some a
  | _ => none
def xe_el (aC : Nat → ClassId) (cv : Value → Value) (q : xC) : va_E :=
  if q.1 < 12 then .inr (q.1, q.2.map cv)
  else if q.1 = 12 then .inl (aC 0, q.2.length, .inl (fun j => xe_iof (cv (q.2.getD j .null))))
  else .inl (aC (q.1 - 12), q.2.length, .inr (.inr (.inr (.inr (fun j => xe_rof (cv (q.2.getD j .null)))))))
def xe_ws (aC : Nat → ClassId) (cv : Value → Value) (B : Nat) (M : xM) : va_W := M.mapIdx (fun k q => (B + k, xe_el aC cv q))
def xe_ty (aC : Nat → ClassId) : List (ClassId × FieldType) := [(aC 0, .int), (aC 1, .object RX0), (aC 2, .object RX2), (aC 3, .object RX7)]
abbrev xe_A (B : Nat) : Nat → Prop := fun q => B ≤ q
/-- the static row of letters -/
def xLet : List Value := [.int 103, .int 108, .int 116, .int 111, .int 105, .int 102]
def xe_K (D : va_G) (aC : Nat → ClassId) (b : Nat → Nat) (B : Nat) (U : State) : Prop := va_K D vwCl (xe_ty aC) U ∧ (va_AO RX0 U ∧ va_AO RX2 U ∧ va_AO RX7 U) ∧ (∀ w ∈ xnw, va_Nw w U) ∧ va_Z RX11 "KIND_LETTERS" "[I" (.ref (b 1)) (xe_A B) U U.heap ∧ va_T .int (b 1) 6 (fun j => xLet.getD j .null) (xe_A B) U U.heap
section
variable {aC : Nat → ClassId} {cv : Value → Value} {B : Nat} {M : xM}
theorem xe_ws_get {k : Nat} {q : xC} (h : M[k]? = some q) : (xe_ws aC cv B M)[k]? = some (B + k, xe_el aC cv q) := by
  rw [xe_ws, List.getElem?_mapIdx, h]
  rfl
theorem xe_ws_inv {k : Nat} {x : Nat × va_E} (h : (xe_ws aC cv B M)[k]? = some x) : k < M.length ∧ x.1 = B + k := by
  rw [xe_ws, List.getElem?_mapIdx] at h
  cases hk : M[k]? with
  | none => rw [hk] at h; cases h
  | some q =>
    rw [hk] at h
    cases h
    exact ⟨(List.getElem?_eq_some_iff.mp hk).1, rfl⟩
theorem xe_ws_set (k : Nat) (q : xC) : (xe_ws aC cv B M).set k (B + k, xe_el aC cv q) = xe_ws aC cv B (M.set k q) := by
  apply List.ext_getElem?
  intro j
  rw [List.getElem?_set, xe_ws, xe_ws, List.getElem?_mapIdx, List.getElem?_mapIdx, List.getElem?_set, List.length_mapIdx]
  by_cases h : k = j
  · subst h
    simp only [if_true]
    by_cases h2 : k < M.length
    · simp [h2]
    · simp [h2]
  · simp [h]
theorem xe_ws_app (q : xC) : xe_ws aC cv B M ++ [(B + M.length, xe_el aC cv q)] = xe_ws aC cv B (M ++ [q]) := by
  simp [xe_ws, List.mapIdx_append]
theorem xe_ws_D : va_D (xe_A B) (xe_ws aC cv B M) := by
  refine ⟨fun i j p q hi hj e => ?_, fun k q hk => ?_⟩
  · have h1 := (xe_ws_inv hi).2
    have h2 := (xe_ws_inv hj).2
    omega
  · have h1 := (xe_ws_inv hk).2
    show B ≤ q.1
    omega
theorem xe_el_obj {ci : Nat} {fs : List Value} (h : ci < 12) : xe_el aC cv (ci, fs) = .inr (ci, fs.map cv) := by
  unfold xe_el
  rw [if_pos h]
theorem xe_el_int {vs : List Value} : xe_el aC cv (12, vs) = .inl (aC 0, vs.length, .inl (fun j => xe_iof (cv (vs.getD j .null)))) := rfl
theorem xe_el_ref {t : Nat} {vs : List Value} (h : 12 < t) : xe_el aC cv (t, vs) = .inl (aC (t - 12), vs.length, .inr (.inr (.inr (.inr (fun j => xe_rof (cv (vs.getD j .null))))))) := by
  unfold xe_el
  rw [if_neg (by show ¬ t < 12; omega), if_neg (by show ¬ t = 12; omega)]
theorem xe_upd {vs : List Value} {i : Nat} (v : Value) (h : i < vs.length) : upd (fun j => xe_iof (cv (vs.getD j .null))) i (xe_iof (cv v)) = fun j => xe_iof (cv ((vs.set i v).getD j .null)) := by
  funext j
  unfold upd
  by_cases e : j = i
  · subst e
    simp [List.getD_eq_getElem?_getD, List.getElem?_set, h]
  · simp [List.getD_eq_getElem?_getD, List.getElem?_set, e, Ne.symm e]
theorem xe_updR {vs : List Value} {i : Nat} (v : Value) (h : i < vs.length) : va_up (fun j => xe_rof (cv (vs.getD j .null))) i (xe_rof (cv v)) = fun j => xe_rof (cv ((vs.set i v).getD j .null)) := by
  funext j
  unfold va_up
  by_cases e : j = i
  · subst e
    simp [List.getD_eq_getElem?_getD, List.getElem?_set, h]
  · simp [List.getD_eq_getElem?_getD, List.getElem?_set, e, Ne.symm e]
end
def xe_vtag (v : Value) : Nat := match v with
  | .int _ => 0
  | .float _ => 0
  | .long _ => 1
  | .double _ => 1
  | .ref _ => 2
  | .null => 2
  | .retAddr _ => 3
def xe_okst (t ci : Nat) : Bool := match t with
  | 13 => ci == 0
  | 14 => ci == 2
  | 15 => ci == 3 || (ci == 4 || (ci == 5 || (ci == 6 || (ci == 8 || ci == 9))))
  | _ => false
theorem xe_okst_ok {t ci : Nat} (h : xe_okst t ci = true) : (t = 13 ∧ ci = 0) ∨ (t = 14 ∧ ci = 2) ∨ (t = 15 ∧ (ci = 3 ∨ ci = 4 ∨ ci = 5 ∨ ci = 6 ∨ ci = 8 ∨ ci = 9)) := by
  unfold xe_okst at h
  split at h
  · exact Or.inl ⟨rfl, by simpa using h⟩
  · exact Or.inr (Or.inl ⟨rfl, by simpa using h⟩)
  · exact Or.inr (Or.inr ⟨rfl, by simpa using h⟩)
  · cases h
def xe_isN (v : Value) : Bool := match v with
  | .ref _ => true
  | .null => true
  | _ => false
noncomputable def xb_getfield (k : Nat) (oc : Nat) (pc : Nat) (lv : xL) (st : List Value) (M : xM) : Option (xF × xM) := match st with
  | .ref a :: r => match xg M a with
    | some q => match xfF oc k with
      | some e => if q.1 < 12 ∧ e.2.2.2.2.contains q.1 = true then match xg q.2 e.2.1 with
          | some v => some ((pc + 3, lv, v :: r), M)
          | none => none
        else none
      | none => none
    | none => none
  | _ => none
noncomputable def xb_putfield (k : Nat) (oc : Nat) (ini : Bool) (pc : Nat) (lv : xL) (st : List Value) (M : xM) : Option (xF × xM) := match st with
  | v :: .ref a :: r => match xg M a with
    | some q => match xfF oc k with
      | some e => if (q.1 < 12 ∧ e.2.2.2.2.contains q.1 = true) ∧ (xe_vtag v = e.2.2.1 ∧ (e.2.2.2.1 = true → ini = true) ∧ e.2.2.1 < 3) ∧ e.2.1 < xln q.2 then some ((pc + 3, lv, r), xse M a (q.1, xse q.2 e.2.1 v)) else none
      | none => none
    | none => none
  | _ => none
noncomputable def xb_iaload  (sc : Option (List Value)) (pc : Nat) (lv : xL) (st : List Value) (M : xM) : Option (xF × xM) := match st with
  | .int j :: .ref a :: r => match xg M a with
    | some q => if q.1 = 12 ∧ ¬ xlt j 0 = true then match xg q.2 j.toNatClampNeg with
        | some v => if xe_isI v = true then some ((pc + 1, lv, v :: r), M) else none
        | none => none
      else none
    | none => none
  | .int j :: .retAddr 0 :: r => match sc with
    | some vs => if ¬ xlt j 0 = true then match xg vs j.toNatClampNeg with
        | some v => if xe_isI v = true then some ((pc + 1, lv, v :: r), M) else none
        | none => none
      else none
    | none => none
  | .int j :: .retAddr 1 :: r => if ¬ xlt j 0 = true then match xg xLet j.toNatClampNeg with
      | some v => some ((pc + 1, lv, v :: r), M)
      | none => none
    else none
  | _ => none
noncomputable def xb_iastore  (pc : Nat) (lv : xL) (st : List Value) (M : xM) : Option (xF × xM) := match st with
  | v :: .int j :: .ref a :: r => match xg M a with
    | some q => if q.1 = 12 ∧ xe_isI v = true ∧ ¬ xlt j 0 = true ∧ j.toNatClampNeg < xln q.2 then some ((pc + 1, lv, r), xse M a (12, xse q.2 j.toNatClampNeg v)) else none
    | none => none
  | _ => none
noncomputable def xb_aaload  (pc : Nat) (lv : xL) (st : List Value) (M : xM) : Option (xF × xM) := match st with
  | .int j :: .ref a :: r => match xg M a with
    | some q => if (12 < q.1 ∧ q.1 < 16) ∧ ¬ xlt j 0 = true then match xg q.2 j.toNatClampNeg with
        | some v => if xe_isN v = true then some ((pc + 1, lv, v :: r), M) else none
        | none => none
      else none
    | none => none
  | _ => none
noncomputable def xb_aastore  (pc : Nat) (lv : xL) (st : List Value) (M : xM) : Option (xF × xM) := match st with
  | .ref o :: .int j :: .ref a :: r => match xg M a with
    | some q => match xg M o with
      | some q' => if xe_okst q.1 q'.1 = true ∧ ¬ xlt j 0 = true ∧ j.toNatClampNeg < xln q.2 then some ((pc + 1, lv, r), xse M a (q.1, xse q.2 j.toNatClampNeg (.ref o))) else none
      | none => none
    | none => none
  | _ => none
noncomputable def xb_arraylength  (sc : Option (List Value)) (pc : Nat) (lv : xL) (st : List Value) (M : xM) : Option (xF × xM) := match st with
  | .ref a :: r => match xg M a with
    | some q => if 12 ≤ q.1 ∧ q.1 < 16 then some ((pc + 1, lv, .int (Int32.ofNat (xln q.2)) :: r), M) else none
    | none => none
  | .retAddr 0 :: r => match sc with
    | some vs => some ((pc + 1, lv, .int (Int32.ofNat (xln vs)) :: r), M)
    | none => none
  | _ => none
noncomputable def xb_getstatic (k : Nat) (oc : Nat) (pc : Nat) (lv : xL) (st : List Value) (M : xM) : Option (xF × xM) := if oc = 8 ∧ k = 86 then some ((pc + 3, lv, .retAddr 1 :: st), M) else none
noncomputable def xe_step2 (sc : Option (List Value)) (oc : Nat) (ini : Bool) (i : Instr) (pc : Nat) (lv : xL) (st : List Value) (M : xM) : Option (xF × xM) := match i with
  | .getfield k => xb_getfield k oc pc lv st M
  | .putfield k => xb_putfield k oc ini pc lv st M
  | .iaload => xb_iaload sc pc lv st M
  | .iastore => xb_iastore pc lv st M
  | .aaload => xb_aaload pc lv st M
  | .aastore => xb_aastore pc lv st M
  | .arraylength => xb_arraylength sc pc lv st M
  | .getstatic k => xb_getstatic k oc pc lv st M
  | _ => none
section
variable {p : Program} {l : Launch} {e : Env} {R : Room} {s : State} {m : MethodId} {args : Array Value} {below : List Frame} {meth : Method} {c : Code} {H : Heap} {locs : List Loc} {cells slots : Nat} {Q : State → Prop}
variable {cc : ByteArray} {pc : Nat} {ls : Array Slot} {b : Nat → Nat} {B : Nat} {xs : Nat → Int32} {oc : Nat} {D : va_G} {aC : Nat → ClassId}
theorem xe_fits {ty : FieldType} {v : Value} {n : Nat} (h : xe_tag ty = n) (hv : xe_vtag v = n) (hn : n < 3) : narrow ty (xe_cv b B xs v) = xe_cv b B xs v ∧ fits ty (xe_cv b B xs v) = true := by
  cases ty <;> cases v <;> simp_all [xe_tag, xe_vtag, xe_cv, narrow, fits] <;> omega
theorem xe_asg (hK : xe_K D aC b B s) {C : String} (hc : Cond.castable C RX7 ∈ xnw) : ∀ comp c0 : ClassId, s.vm.findClass RX7 = some comp → s.vm.findClass C = some c0 → s.vm.assignable c0 comp = true := by
  intro comp c0 h1 h2
  obtain ⟨x, y, e1, e2, e3⟩ := Cond.castable_spec (hK.2.2.1 _ hc)
  rw [h2] at e1
  rw [h1] at e2
  cases e1
  cases e2
  exact e3
set_option maxHeartbeats 4000000 in
theorem xe_step2_ok (hx : p.tables.exec = Jvm.exec) (hb : c.code = cc) (hown : s.vm.findClass (RO oc) = some m.cls) (hts : ∀ w ∈ xWS, w.before args s = true) (hK : xe_K D aC b B s) {ini : Bool} (hin : ini = true → meth.name = "<init>") {sc : Option (List Value)}
    (hsc : ∀ vs, sc = some vs → va_X (b 0) vs.length (fun j => xe_iof (xe_cv b B xs (vs.getD j .null))) s s.heap ∧ b 0 < s.heap.size ∧ b 0 < B) (hS : va_S (xe_A B) s.heap H locs) {M : xM} (hP : va_P D vwCl (xe_ws aC (xe_cv b B xs) B M) H)
    {i : Instr} {len : Nat} {lv : xL} {st : List Value} {f : xF × xM} (hd : decode cc pc = .ok (i, xe_len i len)) (h : xe_step2 sc oc ini i pc lv st M = some f)
    (k : ∀ (H' : Heap) (locs' : List Loc), f.1.2.1 = lv → f.2.length = M.length → va_S (xe_A B) s.heap H' locs' → va_P D vwCl (xe_ws aC (xe_cv b B xs) B f.2) H' → W p l e R s m args below meth c H' locs' cells slots Q (F0 m f.1.1 ls (f.1.2.2.map (xe_cv b B xs)))) : W p l e R s m args below meth c H locs cells slots Q (F0 m pc ls (st.map (xe_cv b B xs))) := by
  have hinA : ∀ {j : Int32} {n : Nat}, ¬ j < 0 → j.toNatClampNeg < n → vp_in j n := fun h1 h2 h3 => h3.elim h1 (fun h4 => absurd h2 (Nat.not_lt.mpr h4))
  unfold xe_step2 at h
  split at h
  · unfold xb_getfield at h
    simp only [xg_eq, xse_eq, xln_eq, xlt_iff, xfF_eq] at h
    split at h
    · rename_i a r
      split at h
      · rename_i q hq
        obtain ⟨ci, fs⟩ := q
        split at h
        · rename_i e0 he0
          split at h
          · rename_i hc
            split at h
            · rename_i v hv
              cases h
              obtain ⟨hG, hidx⟩ := xf_ok he0
              obtain ⟨C, T, N, h1, h2, h3, h4, h5, h6⟩ := hG ci (by simpa using hc.2)
              have hw := xe_ws_get (aC := aC) (cv := xe_cv b B xs) (B := B) hq
              rw [xe_el_obj hc.1] at hw
              rw [← hidx] at hd
              exact va_get hx hb hts (xcl_ok _ _ _ _ h1).1 hown hK.1 hP a hw h1 e0.2.1 h2 (hts _ h3) (fun _ z => z) (by rw [List.getElem?_map, hv]; rfl) hd (k H locs rfl rfl hS hP)
            · cases h
          · cases h
        · cases h
      · cases h
    · cases h
  · unfold xb_putfield at h
    simp only [xg_eq, xse_eq, xln_eq, xlt_iff, xfF_eq] at h
    split at h
    · rename_i v a r
      split at h
      · rename_i q hq
        obtain ⟨ci, fs⟩ := q
        split at h
        · rename_i e0 he0
          split at h
          · rename_i hc
            cases h
            obtain ⟨hG, hidx⟩ := xf_ok he0
            obtain ⟨C, T, N, h1, h2, h3, h4, h5, h6⟩ := hG ci (by simpa using hc.1.2)
            have hw := xe_ws_get (aC := aC) (cv := xe_cv b B xs) (B := B) hq
            rw [xe_el_obj hc.1.1] at hw
            rw [← hidx] at hd
            obtain ⟨hcw, ⟨ty0, hty⟩, hnm⟩ := xcl_ok _ _ _ _ h1
            have htk := hty _ h2
            rw [htk] at h5
            have h5 : xe_tag (ty0 e0.2.1) = e0.2.2.1 := Option.some.inj h5
            have hfit := xe_fits (b := b) (B := B) (xs := xs) h5 hc.2.1.1 hc.2.1.2.2
            have hkk : ∀ (H1 : Heap) (locs1 : List Loc), va_P D vwCl ((xe_ws aC (xe_cv b B xs) B M).set a (B + a, .inr (ci, (fs.map (xe_cv b B xs)).set e0.2.1 (xe_cv b B xs v)))) H1 → va_D (xe_A B) ((xe_ws aC (xe_cv b B xs) B M).set a (B + a, .inr (ci, (fs.map (xe_cv b B xs)).set e0.2.1 (xe_cv b B xs v)))) → va_S (xe_A B) s.heap H1 locs1 → W p l e R s m args below meth c H1 locs1 cells slots Q (F0 m (pc + 3) ls (r.map (xe_cv b B xs))) := by
              intro H1 locs1 z1 _ z3
              rw [← List.map_set, ← xe_el_obj (aC := aC) (cv := xe_cv b B xs) hc.1.1, xe_ws_set] at z1
              exact k H1 locs1 rfl (List.length_set ..) z3 z1
            by_cases hf : e0.2.2.2.1 = true
            · exact va_putF hx hb hts hcw ty0 hty hnm hown hK.1 hP xe_ws_D hS a hw h1 e0.2.1 h2 (hts _ h3) (fun _ z => z) (h4.trans hf) (hin (hc.2.1.2.1 hf)) h6 htk hfit.1 hfit.2 (by rw [List.length_map]; exact hc.2.2) hd hkk
            · exact va_put hx hb hts hcw ty0 hty hnm hown hK.1 hP xe_ws_D hS a hw h1 e0.2.1 h2 (hts _ h3) (fun _ z => z) (by rw [h4]; cases hff : e0.2.2.2.1 with
                | true => exact absurd hff hf
                | false => rfl) htk hfit.1 hfit.2 (by rw [List.length_map]; exact hc.2.2) hd hkk
          · cases h
        · cases h
      · cases h
    · cases h
  · unfold xb_iaload at h
    simp only [xg_eq, xse_eq, xln_eq, xlt_iff, xfF_eq] at h
    split at h
    · rename_i j a r
      split at h
      · rename_i q hq
        obtain ⟨t, vs⟩ := q
        split at h
        · rename_i hc
          obtain ⟨rfl, hj⟩ := hc
          split at h
          · rename_i v hv
            split at h
            · rename_i hI
              cases h
              have hw := xe_ws_get (aC := aC) (cv := xe_cv b B xs) (B := B) hq
              rw [xe_el_int] at hw
              have hlt : j.toNatClampNeg < vs.length := (List.getElem?_eq_some_iff.mp hv).1
              have h3 := k H locs rfl rfl hS hP
              have h4 : Value.int (xe_iof (xe_cv b B xs (vs.getD j.toNatClampNeg .null))) = xe_cv b B xs v := by
                obtain ⟨x, ex⟩ := xe_isI_ok (b := b) (B := B) (xs := xs) hI
                have : vs.getD j.toNatClampNeg .null = v := by rw [List.getD_eq_getElem?_getD, hv]; rfl
                rw [this, ex]
                rfl
              rw [List.map_cons, ← h4] at h3
              exact va_iald hx hb hK.1 hP a 0 hw rfl (hinA hj hlt) hd h3
            · cases h
          · cases h
        · cases h
      · cases h
    · rename_i j r
      split at h
      · rename_i vs
        split at h
        · rename_i hj
          split at h
          · rename_i v hv
            split at h
            · rename_i hI
              cases h
              obtain ⟨hX, hb1, hb2⟩ := hsc vs rfl
              have hlt : j.toNatClampNeg < vs.length := (List.getElem?_eq_some_iff.mp hv).1
              have h3 := k H locs rfl rfl hS hP
              have h4 : Value.int (xe_iof (xe_cv b B xs (vs.getD j.toNatClampNeg .null))) = xe_cv b B xs v := by
                obtain ⟨x, ex⟩ := xe_isI_ok (b := b) (B := B) (xs := xs) hI
                have : vs.getD j.toNatClampNeg .null = v := by rw [List.getD_eq_getElem?_getD, hv]; rfl
                rw [this, ex]
                rfl
              rw [List.map_cons, ← h4] at h3
              exact va_sld hx hb hX hb1 (fun z => absurd z (Nat.not_le.mpr hb2)) hS (hinA hj hlt) hd h3
            · cases h
          · cases h
        · cases h
      · cases h
    · rename_i j r
      split at h
      · rename_i hj
        split at h
        · rename_i v hv
          cases h
          have hlt : j.toNatClampNeg < 6 := (List.getElem?_eq_some_iff.mp hv).1
          have hv2 : xLet.getD j.toNatClampNeg .null = v := by rw [List.getD_eq_getElem?_getD, hv]; rfl
          have hv3 : xe_cv b B xs v = v := by
            have hm := List.mem_of_getElem? hv
            unfold xLet at hm
            simp only [List.mem_cons, List.not_mem_nil, or_false] at hm
            rcases hm with rfl | rfl | rfl | rfl | rfl | rfl <;> rfl
          have h3 := k H locs rfl rfl hS hP
          rw [List.map_cons, hv3] at h3
          exact va_ti hx hb hK.2.2.2.2 hS (hinA hj hlt) hv2 hd h3
        · cases h
      · cases h
    · cases h
  · unfold xb_iastore at h
    simp only [xg_eq, xse_eq, xln_eq, xlt_iff, xfF_eq] at h
    split at h
    · rename_i v j a r
      split at h
      · rename_i q hq
        obtain ⟨t, vs⟩ := q
        split at h
        · rename_i hc
          obtain ⟨rfl, hI, hj, hlt⟩ := hc
          cases h
          have hw := xe_ws_get (aC := aC) (cv := xe_cv b B xs) (B := B) hq
          rw [xe_el_int] at hw
          obtain ⟨x, ex⟩ := xe_isI_ok (b := b) (B := B) (xs := xs) hI
          have ex2 : x = xe_iof (xe_cv b B xs v) := by rw [ex]; rfl
          rw [List.map_cons, ex]
          refine va_iast hx hb hK.1 hP xe_ws_D hS a 0 hw rfl (hinA hj hlt) hd fun H1 locs1 z1 _ z3 => ?_
          rw [ex2, xe_upd v hlt] at z1
          have e9 : (.inl (aC 0, vs.length, .inl (fun j_1 => xe_iof (xe_cv b B xs ((vs.set j.toNatClampNeg v).getD j_1 .null)))) : va_E) = xe_el aC (xe_cv b B xs) (12, vs.set j.toNatClampNeg v) := by
            rw [xe_el_int, List.length_set]
          rw [e9, xe_ws_set] at z1
          exact k H1 locs1 rfl (List.length_set ..) z3 z1
        · cases h
      · cases h
    · cases h
  · unfold xb_aaload at h
    simp only [xg_eq, xse_eq, xln_eq, xlt_iff, xfF_eq] at h
    split at h
    · rename_i j a r
      split at h
      · rename_i q hq
        obtain ⟨t, vs⟩ := q
        split at h
        · rename_i hc
          obtain ⟨⟨ht1, ht2⟩, hj⟩ := hc
          split at h
          · rename_i v hv
            split at h
            · rename_i hI
              cases h
              have hw := xe_ws_get (aC := aC) (cv := xe_cv b B xs) (B := B) hq
              rw [xe_el_ref ht1] at hw
              have hlt : j.toNatClampNeg < vs.length := (List.getElem?_eq_some_iff.mp hv).1
              have h3 := k H locs rfl rfl hS hP
              have h4 : va_rf (xe_rof (xe_cv b B xs (vs.getD j.toNatClampNeg .null))) = xe_cv b B xs v := by
                have : vs.getD j.toNatClampNeg .null = v := by rw [List.getD_eq_getElem?_getD, hv]; rfl
                rw [this]
                cases v <;> first | rfl | cases hI
              rw [List.map_cons, ← h4] at h3
              have ht3 : t = 13 ∨ t = 14 ∨ t = 15 := by
                have h1 : 12 < t := ht1
                have h2 : t < 16 := ht2
                omega
              rcases ht3 with rfl | rfl | rfl
              · exact va_aldq hx hb hK.1 hP a 1 hw rfl (hinA hj hlt) hd h3
              · exact va_aldq hx hb hK.1 hP a 2 hw rfl (hinA hj hlt) hd h3
              · exact va_aldq hx hb hK.1 hP a 3 hw rfl (hinA hj hlt) hd h3
            · cases h
          · cases h
        · cases h
      · cases h
    · cases h
  · unfold xb_aastore at h
    simp only [xg_eq, xse_eq, xln_eq, xlt_iff, xfF_eq] at h
    split at h
    · rename_i o j a r
      split at h
      · rename_i q hq
        obtain ⟨t, vs⟩ := q
        split at h
        · rename_i q' hq'
          obtain ⟨ci, fs⟩ := q'
          split at h
          · rename_i hc
            obtain ⟨hok, hj, hlt⟩ := hc
            cases h
            have hw := xe_ws_get (aC := aC) (cv := xe_cv b B xs) (B := B) hq
            have hv := xe_ws_get (aC := aC) (cv := xe_cv b B xs) (B := B) hq'
            have hkk : 12 < t → ∀ (H1 : Heap) (locs1 : List Loc), va_P D vwCl ((xe_ws aC (xe_cv b B xs) B M).set a (B + a, .inl (aC (t - 12), vs.length, .inr (.inr (.inr (.inr (va_up (fun j => xe_rof (xe_cv b B xs (vs.getD j .null))) j.toNatClampNeg (some (B + o))))))))) H1 → va_S (xe_A B) s.heap H1 locs1 → W p l e R s m args below meth c H1 locs1 cells slots Q (F0 m (pc + 1) ls (r.map (xe_cv b B xs))) := by
              intro ht H1 locs1 z1 z3
              have e8 := xe_updR (cv := xe_cv b B xs) (.ref o) hlt
              have e9 : (.inl (aC (t - 12), vs.length, .inr (.inr (.inr (.inr (va_up (fun j => xe_rof (xe_cv b B xs (vs.getD j .null))) j.toNatClampNeg (some (B + o))))))) : va_E) = xe_el aC (xe_cv b B xs) (t, vs.set j.toNatClampNeg (.ref o)) := by
                rw [xe_el_ref ht, List.length_set, ← e8]
                rfl
              rw [e9, xe_ws_set] at z1
              exact k H1 locs1 rfl (List.length_set ..) z3 z1
            have hsub : ∀ {C : String} {T : u_T}, vwCl[ci]? = some (C, T, 2) → ci < 12 → Cond.castable C RX7 ∈ xnw → va_Any RX7 s H (B + o) := fun h1 h2 h3 => by
              rw [xe_el_obj h2] at hv
              exact va_rAny hK.1 hP hv h1 (xe_asg hK h3)
            rcases xe_okst_ok hok with ⟨ht, hci⟩ | ⟨ht, hci⟩ | ⟨ht, hci⟩
            · dsimp only at ht hci
              subst ht; subst hci
              rw [xe_el_ref (by decide)] at hw
              rw [xe_el_obj (by decide)] at hv
              exact va_astq hx hb hK.1 hP xe_ws_D hS a 1 o 0 hw rfl hv rfl (hinA hj hlt) hd (fun H1 locs1 z1 _ z3 => hkk (by decide) H1 locs1 z1 z3)
            · dsimp only at ht hci
              subst ht; subst hci
              rw [xe_el_ref (by decide)] at hw
              rw [xe_el_obj (by decide)] at hv
              exact va_astq hx hb hK.1 hP xe_ws_D hS a 2 o 2 hw rfl hv rfl (hinA hj hlt) hd (fun H1 locs1 z1 _ z3 => hkk (by decide) H1 locs1 z1 z3)
            · dsimp only at ht hci
              subst ht
              rw [xe_el_ref (by decide)] at hw
              rcases hci with rfl | rfl | rfl | rfl | rfl | rfl
              · exact va_astqM hx hb hK.1 hP xe_ws_D hS a 3 hw rfl (hsub rfl (by decide) xnw_cRX4) (hinA hj hlt) hd (fun H1 locs1 z1 _ z3 => hkk (by decide) H1 locs1 z1 z3)
              · exact va_astqM hx hb hK.1 hP xe_ws_D hS a 3 hw rfl (hsub rfl (by decide) xnw_cRX5) (hinA hj hlt) hd (fun H1 locs1 z1 _ z3 => hkk (by decide) H1 locs1 z1 z3)
              · exact va_astqM hx hb hK.1 hP xe_ws_D hS a 3 hw rfl (hsub rfl (by decide) xnw_cRX6) (hinA hj hlt) hd (fun H1 locs1 z1 _ z3 => hkk (by decide) H1 locs1 z1 z3)
              · rw [xe_el_obj (by decide)] at hv
                exact va_astq hx hb hK.1 hP xe_ws_D hS a 3 o 6 hw rfl hv rfl (hinA hj hlt) hd (fun H1 locs1 z1 _ z3 => hkk (by decide) H1 locs1 z1 z3)
              · exact va_astqM hx hb hK.1 hP xe_ws_D hS a 3 hw rfl (hsub rfl (by decide) xnw_cRX9) (hinA hj hlt) hd (fun H1 locs1 z1 _ z3 => hkk (by decide) H1 locs1 z1 z3)
              · exact va_astqM hx hb hK.1 hP xe_ws_D hS a 3 hw rfl (hsub rfl (by decide) xnw_cRX10) (hinA hj hlt) hd (fun H1 locs1 z1 _ z3 => hkk (by decide) H1 locs1 z1 z3)
          · cases h
        · cases h
      · cases h
    · cases h
  · unfold xb_arraylength at h
    simp only [xg_eq, xse_eq, xln_eq, xlt_iff, xfF_eq] at h
    split at h
    · rename_i a r
      split at h
      · rename_i q hq
        obtain ⟨t, vs⟩ := q
        split at h
        · rename_i hc
          cases h
          have hw := xe_ws_get (aC := aC) (cv := xe_cv b B xs) (B := B) hq
          have ht3 : t = 12 ∨ t = 13 ∨ t = 14 ∨ t = 15 := by
            have h1 : 12 ≤ t := hc.1
            have h2 : t < 16 := hc.2
            omega
          rcases ht3 with rfl | rfl | rfl | rfl
          · exact va_alen hx hb hK.1 hP a 0 hw rfl rfl hd (k H locs rfl rfl hS hP)
          · rw [xe_el_ref (by decide)] at hw
            exact va_alen hx hb hK.1 hP a 1 hw rfl rfl hd (k H locs rfl rfl hS hP)
          · rw [xe_el_ref (by decide)] at hw
            exact va_alen hx hb hK.1 hP a 2 hw rfl rfl hd (k H locs rfl rfl hS hP)
          · rw [xe_el_ref (by decide)] at hw
            exact va_alen hx hb hK.1 hP a 3 hw rfl rfl hd (k H locs rfl rfl hS hP)
        · cases h
      · cases h
    · split at h
      · rename_i vs
        cases h
        obtain ⟨hX, hb1, hb2⟩ := hsc vs rfl
        exact va_slen hx hb hX hb1 (fun z => absurd z (Nat.not_le.mpr hb2)) hS hd (k H locs rfl rfl hS hP)
      · cases h
    · cases h
  · unfold xb_getstatic at h
    split at h
    · rename_i hc
      obtain ⟨rfl, rfl⟩ := hc
      cases h
      exact va_getsN hx hb hK.2.2.2.1 hS hown (va_Nw.use rfl (hK.2.2.1 _ xnw_K)) (fun _ z => z) hd (k H locs rfl rfl hS hP)
    · cases h
  · cases h
end
end
section
/-! calls, new cells, ends; the run of a method, and its soundness -/
def xe_isret (rt : Nat) (i : Instr) (r : Option Value) : Bool := match i, r with
  | .ireturn, some v => xe_isI v && (rt == 1 || (rt == 2 && (decide (v = .int 0) || decide (v = .int 1))))
  | .lreturn, some v => xe_isL v && rt == 3
  | .areturn, some (.ref _) => rt == 4
  | .return_, none => rt == 0
  | _, _ => false
def xe_cont (ih : Nat → xL → List Value → xM → Option xO) (pc : Nat) (lv : xL) (rest : List Value) (o : Option xO) : Option xO := match o with
  | some o1 => match ih (pc + 3) lv (o1.1.toList ++ rest) o1.2.1 with
    | some o2 => some (o2.1, o2.2.1, o1.2.2.1 + o2.2.2.1, o1.2.2.2 + o2.2.2.2)
    | none => none
  | none => none
def xe_made (o : Option xO) (n : Nat) : Option xO := match o with
  | some o => some (o.1, o.2.1, 1 + o.2.2.1, n + o.2.2.2)
  | none => none
def xe_end (rt : Nat) (i : Instr) (st : List Value) (M : xM) : Option xO := match st with
  | [] => if xe_isret rt i none = true then some (none, M, 0, 0) else none
  | [v] => if xe_isret rt i (some v) = true then some (some v, M, 0, 0) else none
  | _ => none
def xe_sum (r : List Value) : Bool := decide ((r.map fun v => v.category).sum ≤ 8)
/-- n places of one list into another -/
def xcpy (vs ws : List Value) (sp dp n : Nat) : List Value := ws.take dp ++ ((vs.drop sp).take n ++ ws.drop (dp + n))
noncomputable def xe_copy (pc : Nat) (lv : xL) (st : List Value) (M : xM) (ih : Nat → xL → List Value → xM → Option xO) : Option xO := match st with
  | .int n :: .int dp :: .ref da :: .int sp :: .ref sa :: r => match xg M sa with
    | some q0 => match xg M da with
      | some q1 => if (q0.1 = 12 ∧ q1.1 = 12) ∧ (¬ xlt sp 0 = true ∧ ¬ xlt dp 0 = true ∧ ¬ xlt n 0 = true) ∧ (sp.toNatClampNeg + n.toNatClampNeg ≤ xln q0.2 ∧ dp.toNatClampNeg + n.toNatClampNeg ≤ xln q1.2) ∧ xe_sum r = true then ih (pc + 3) lv r (xse M da (12, xcpy q0.2 q1.2 sp.toNatClampNeg dp.toNatClampNeg n.toNatClampNeg)) else none
      | none => none
    | none => none
  | _ => none
noncomputable def xe_callS (call : Nat → List Value → xM → Option xO) (oc k pc : Nat) (lv : xL) (st : List Value) (M : xM) (ih : Nat → xL → List Value → xM → Option xO) : Option xO := match xcF oc k with
  | some (_, 0, mn, _) => match xmF mn with
    | some q => if q.2.2.2.2 ≤ st.length ∧ xe_sum (st.drop q.2.2.2.2) = true then xe_cont ih pc lv (st.drop q.2.2.2.2) (call mn (st.take q.2.2.2.2).reverse M) else none
    | none => none
  | some (_, 8, _, _) => xe_copy pc lv st M ih
  | some (_, 10, mn, _) => match xmF mn with
    | some q => if q.2.2.2.2 ≤ st.length ∧ xe_sum (st.drop q.2.2.2.2) = true then xe_cont ih pc lv (st.drop q.2.2.2.2) (call mn (st.take q.2.2.2.2).reverse M) else none
    | none => none
  | some (_, 7, mn, _) => match xmF mn with
    | some q => if q.2.2.2.2 ≤ st.length ∧ xe_sum (st.drop q.2.2.2.2) = true then xe_cont ih pc lv (st.drop q.2.2.2.2) (call mn (st.take q.2.2.2.2).reverse M) else none
    | none => none
  | some (_, 5, _, _) => match st with
    | .int y :: .int x :: r => if xe_sum r = true then ih (pc + 3) lv (.int (if x < y then y else x) :: r) M else none
    | _ => none
  | some (_, 6, _, _) => match st with
    | .int y :: .int x :: r => if xe_sum r = true then ih (pc + 3) lv (.int (if y < x then y else x) :: r) M else none
    | _ => none
  | _ => none
noncomputable def xe_callI (call : Nat → List Value → xM → Option xO) (oc k pc : Nat) (lv : xL) (st : List Value) (M : xM) (ih : Nat → xL → List Value → xM → Option xO) : Option xO := match xcF oc k with
  | some (_, 1, mn, _) => match xmF mn with
    | some q => match st.drop q.2.2.2.2 with
      | .ref a :: r => if xe_sum r = true then xe_cont ih pc lv r (call mn (.ref a :: (st.take q.2.2.2.2).reverse) M) else none
      | _ => none
    | none => none
  | some (_, 2, mn, _) => match xmF mn with
    | some q => match st.drop q.2.2.2.2 with
      | .ref a :: r => if xe_sum r = true then xe_cont ih pc lv r (call mn (.ref a :: (st.take q.2.2.2.2).reverse) M) else none
      | _ => none
    | none => none
  | some (_, 9, mn, _) => match xmF mn with
    | some q => match st.drop q.2.2.2.2 with
      | .ref a :: r => match xg M a with
        | some q0 => if q0.1 < 12 ∧ xe_sum r = true then xe_cont ih pc lv r (call mn (.ref a :: (st.take q.2.2.2.2).reverse) M) else none
        | none => none
      | _ => none
    | none => none
  | some (_, 4, _, _) => match st with
    | .ref a :: r => if xe_sum r = true then ih (pc + 3) lv r M else none
    | _ => none
  | _ => none
noncomputable def xe_callV (call : Nat → List Value → xM → Option xO) (oc k pc : Nat) (lv : xL) (st : List Value) (M : xM) (ih : Nat → xL → List Value → xM → Option xO) : Option xO := match xcF oc k with
  | some (_, 3, n, rs) => match st.drop n with
    | .ref a :: r => match xg M a with
      | some q0 => match xfd rs q0.1 with
        | some e => match xmF e.2 with
          | some q => if q0.1 < 12 ∧ q.2.2.2.2 = n ∧ xe_sum r = true then xe_cont ih pc lv r (call e.2 (.ref a :: (st.take n).reverse) M) else none
          | none => none
        | none => none
      | none => none
    | _ => none
  | _ => none
def xe_plain (v : Value) : Bool := match v with
  | .int _ => true
  | .long _ => true
  | .null => true
  | _ => false
noncomputable def xd_new (k : Nat) (oc : Nat) (pc : Nat) (lv : xL) (st : List Value) (M : xM) (ih : Nat → xL → List Value → xM → Option xO) : Option xO := match xn oc k with
  | some e => if e.2.2.all xe_plain = true then xe_made (ih (pc + 3) lv (.ref (xln M) :: st) (M ++ [(e.2.1, e.2.2)])) e.2.2.length else none
  | none => none
noncomputable def xd_newarray  (pc : Nat) (lv : xL) (st : List Value) (M : xM) (ih : Nat → xL → List Value → xM → Option xO) : Option xO := match st with
  | .int n :: r => if ¬ n < 0 ∧ n.toNatClampNeg ≤ 1000 then xe_made (ih (pc + 2) lv (.ref (xln M) :: r) (M ++ [(12, List.replicate n.toNatClampNeg (.int 0))])) n.toNatClampNeg else none
  | _ => none
noncomputable def xd_anewarray (k : Nat) (oc : Nat) (pc : Nat) (lv : xL) (st : List Value) (M : xM) (ih : Nat → xL → List Value → xM → Option xO) : Option xO := match xa oc k with
  | some e => match st with
    | .int n :: r => if ¬ n < 0 ∧ n.toNatClampNeg ≤ 1000 then xe_made (ih (pc + 3) lv (.ref (xln M) :: r) (M ++ [(13 + e.2, List.replicate n.toNatClampNeg .null)])) n.toNatClampNeg else none
    | _ => none
  | none => none
noncomputable def xd_invokestatic (k : Nat) (call : Nat → List Value → xM → Option xO) (oc : Nat) (pc : Nat) (lv : xL) (st : List Value) (M : xM) (ih : Nat → xL → List Value → xM → Option xO) : Option xO := xe_callS call oc k pc lv st M ih
noncomputable def xd_invokespecial (k : Nat) (call0 : Nat → List Value → xM → Option xO) (oc : Nat) (pc : Nat) (lv : xL) (st : List Value) (M : xM) (ih : Nat → xL → List Value → xM → Option xO) : Option xO := xe_callI call0 oc k pc lv st M ih
noncomputable def xd_invokevirtual (k : Nat) (call : Nat → List Value → xM → Option xO) (oc : Nat) (pc : Nat) (lv : xL) (st : List Value) (M : xM) (ih : Nat → xL → List Value → xM → Option xO) : Option xO := xe_callV call oc k pc lv st M ih
noncomputable def xd_ireturn  (rt : Nat) (st : List Value) (M : xM) : Option xO := xe_end rt .ireturn st M
noncomputable def xd_lreturn  (rt : Nat) (st : List Value) (M : xM) : Option xO := xe_end rt .lreturn st M
noncomputable def xd_areturn  (rt : Nat) (st : List Value) (M : xM) : Option xO := xe_end rt .areturn st M
noncomputable def xd_return_  (rt : Nat) (st : List Value) (M : xM) : Option xO := xe_end rt .return_ st M
noncomputable def xe_step3 (call0 call : Nat → List Value → xM → Option xO) (oc rt : Nat) (i : Instr) (pc : Nat) (lv : xL) (st : List Value) (M : xM) (ih : Nat → xL → List Value → xM → Option xO) : Option xO := match i with
  | .new k => xd_new k oc pc lv st M ih
  | .newarray .int => xd_newarray pc lv st M ih
  | .anewarray k => xd_anewarray k oc pc lv st M ih
  | .invokestatic k => xd_invokestatic k call oc pc lv st M ih
  | .invokespecial k => xd_invokespecial k call0 oc pc lv st M ih
  | .invokevirtual k => xd_invokevirtual k call oc pc lv st M ih
  | .ireturn => xd_ireturn rt st M
  | .lreturn => xd_lreturn rt st M
  | .areturn => xd_areturn rt st M
  | .return_ => xd_return_ rt st M
  | _ => none
noncomputable def xe_body (iv : List (Int32 × Int32)) (a6 : Option Int32) (sc : Option (List Value)) (call0 call : Nat → List Value → xM → Option xO) (tb : xI) (oc nL rt : Nat) (ini : Bool) (ih : Nat → xL → List Value → xM → Option xO) (pc : Nat) (lv : xL) (st : List Value) (M : xM) : Option xO := match xe_lkF tb pc with
  | none => none
  | some q => match xe_step1 iv a6 oc nL q.1 pc lv st with
    | some f => ih f.1 f.2.1 f.2.2 M
    | none => match xe_step2 sc oc ini q.1 pc lv st M with
      | some g => ih g.1.1 g.1.2.1 g.1.2.2 g.2
      | none => xe_step3 call0 call oc rt q.1 pc lv st M ih
noncomputable def xe_run (iv : List (Int32 × Int32)) (a6 : Option Int32) (sc : Option (List Value)) (call0 call : Nat → List Value → xM → Option xO) (tb : xI) (oc nL rt : Nat) (ini : Bool) (n : Nat) : Nat → xL → List Value → xM → Option xO :=
  Nat.rec (motive := fun _ => Nat → xL → List Value → xM → Option xO) (fun _ _ _ _ => none) (fun _ ih => xe_body iv a6 sc call0 call tb oc nL rt ini ih) n
/-- methods, with fuel f for each and depth d -/
noncomputable def xe_ex (f d : Nat) : Nat → List Value → xM → Option xO :=
  Nat.rec (motive := fun _ => Nat → List Value → xM → Option xO) (fun _ _ _ => none) (fun _ ih mn as M => match xmF mn with
    | none => none
    | some q => if xe_cats as ≤ q.1.2.2.1 then xe_run [] none none ih ih q.1.1 q.1.2.1 q.1.2.2.1 q.1.2.2.2.1 q.1.2.2.2.2 f 0 (lv_args 0 as) [] M else none) d
theorem xe_args (b : Nat → Nat) (B : Nat) (xs : Nat → Int32) : ∀ (i : Nat) (as : List Value), lv_args i (as.map (xe_cv b B xs)) = xe_lm b B xs (lv_args i as)
  | _, [] => rfl
  | i, v :: vs => by
    show (i, xe_cv b B xs v) :: lv_args (if (xe_cv b B xs v).category = 2 then i + 2 else i + 1) (vs.map (xe_cv b B xs)) = (i, xe_cv b B xs v) :: xe_lm b B xs (lv_args (if v.category = 2 then i + 2 else i + 1) vs)
    rw [xe_cat, xe_args b B xs]
theorem xe_slen (b : Nat → Nat) (B : Nat) (xs : Nat → Int32) (as : List Value) : (lg_sl (as.map (xe_cv b B xs))).length = (lg_sl as).length := by
  induction as with
  | nil => rfl
  | cons v vs ih =>
    unfold lg_sl at ih ⊢
    rw [List.map_cons, List.flatMap_cons, List.flatMap_cons, List.length_append, List.length_append, ih, xe_cat]
    by_cases h : v.category = 2 <;> simp [h]
theorem xe_ssum (b : Nat → Nat) (B : Nat) (xs : Nat → Int32) (r : List Value) : ((r.map (xe_cv b B xs)).map fun v => v.category) = r.map fun v => v.category := by
  rw [List.map_map]
  exact List.map_congr_left (fun v _ => xe_cat b B xs v)
def xe_rm (d mc ms : Nat) : Room := { frames := d, cells := mc, slots := ms, locals := 64 * d }
def xe_Pc (D : va_G) (aC : Nat → ClassId) (b : Nat → Nat) (B : Nat) (xs : Nat → Int32) (as : List Value) (M : xM) : Array Value → State → Prop := fun v U => v = (as.map (xe_cv b B xs)).toArray ∧ U.heap.size = B + M.length ∧ va_P D vwCl (xe_ws aC (xe_cv b B xs) B M) U.heap ∧ xe_K D aC b B U
def xe_Qc (D : va_G) (aC : Nat → ClassId) (b : Nat → Nat) (B : Nat) (xs : Nat → Int32) (r : Option Value) (M : xM) : Array Value → State → Outcome → State → Prop := fun _ st o t => (o = .returned (r.map (xe_cv b B xs)) ∧ va_P D vwCl (xe_ws aC (xe_cv b B xs) B M) t.heap) ∧ va_F (xe_A B) st t
theorem xe_K.warm {D : va_G} {aC : Nat → ClassId} {b : Nat → Nat} {B : Nat} {s U : State} (hW : s.WarmedH U.vm) (hH : ∀ q : Nat, q < s.heap.size → ¬ xe_A B q → U.heap[q]? = s.heap[q]?) (h : xe_K D aC b B s) : xe_K D aC b B U := by
  refine ⟨va_K.moved hW.alike h.1, ⟨h.2.1.1.moved hW.alike, h.2.1.2.1.moved hW.alike, h.2.1.2.2.moved hW.alike⟩, ?_, (va_Z.moved hW.alike h.2.2.2.1).kept hH, (va_T.moved hW.alike h.2.2.2.2).kept hH⟩
  have h3 := h.2.2.1
  intro w hw
  have h4 := h3 w hw
  unfold xnw at hw
  simp only [List.mem_cons, List.not_mem_nil, or_false] at hw
  rcases hw with rfl | rfl | rfl | rfl | rfl | rfl | rfl | rfl | rfl | rfl | rfl | rfl | rfl
  all_goals first | exact va_Nw.warmM hW h4 | exact va_Nw.warmC hW h4 | exact va_Nw.warmD hW h4 | exact va_Nw.warmF hW h4
theorem xe_blind {D : va_G} {aC : Nat → ClassId} {b : Nat → Nat} {B : Nat} {xs : Nat → Int32} {as : List Value} {M : xM} : FrameBlind (xe_Pc D aC b B xs as M) := fun a U g mk h => ⟨h.1, h.2.1, h.2.2.1, xe_K.warm (s := U) (U := U.calling g mk a) (State.WarmedH.refl U) (fun _ _ _ => rfl) h.2.2.2⟩
section
variable {p : Program} {l : Launch} {e : Env} {R : Room} {s : State} {m : MethodId} {args : Array Value} {below : List Frame} {meth : Method} {c : Code} {H : Heap} {locs : List Loc} {cells slots : Nat} {Q : State → Prop}
variable {cc : ByteArray} {pc : Nat} {ls : Array Slot} {b : Nat → Nat} {B : Nat} {xs : Nat → Int32} {oc : Nat} {D : va_G} {aC : Nat → ClassId}
theorem xe_sized {g : JFrame} (h : H.size ≤ s.heap.size + cells → W p l e R s m args below meth c H locs cells slots Q g) : W p l e R s m args below meth c H locs cells slots Q g := fun T hT X => h (by rw [← hT]; exact X.heapSize) T hT X
theorem xe_size {M : xM} (hc : s.heap.size + cells = B + M.length) (h1 : H.size ≤ s.heap.size + cells) (h2 : s.heap.size ≤ H.size) (h3 : B ≤ s.heap.size) (hP : va_P D vwCl (xe_ws aC (xe_cv b B xs) B M) H) : H.size = B + M.length := by
  cases hM : M with
  | nil => rw [hM] at hc; simp at hc ⊢; omega
  | cons q t =>
    have hlt : M.length - 1 < M.length := by rw [hM]; simp
    obtain ⟨q', hq'⟩ : ∃ q', M[M.length - 1]? = some q' := ⟨_, List.getElem?_eq_getElem hlt⟩
    have h4 := (hP _ _ (xe_ws_get hq')).lt
    dsimp only at h4
    rw [← hM]
    omega
theorem xe_newad {M : xM} {q : Nat} {x : va_E} {H1 : Heap} (hc : s.heap.size + cells = B + M.length) (h1 : H1.size ≤ s.heap.size + (cells + 1)) (hP : va_P D vwCl (xe_ws aC (xe_cv b B xs) B M ++ [(q, x)]) H1) (hD : va_D (xe_A B) (xe_ws aC (xe_cv b B xs) B M ++ [(q, x)])) : q = B + M.length := by
  have hlen : (xe_ws aC (xe_cv b B xs) B M).length = M.length := by simp [xe_ws]
  have hlast : (xe_ws aC (xe_cv b B xs) B M ++ [(q, x)])[M.length]? = some (q, x) := by rw [List.getElem?_append_right (by omega), hlen]; simp
  have h2 := (hP _ _ hlast).lt
  have h3 : B ≤ q := hD.2 _ _ hlast
  dsimp only at h2
  rcases Nat.lt_or_ge q (B + M.length) with h4 | h4
  · exfalso
    have hk : q - B < M.length := by omega
    have hg := xe_ws_get (aC := aC) (cv := xe_cv b B xs) (B := B) (List.getElem?_eq_getElem hk)
    have hg2 : (xe_ws aC (xe_cv b B xs) B M ++ [(q, x)])[q - B]? = some (B + (q - B), xe_el aC (xe_cv b B xs) M[q - B]) := by rw [List.getElem?_append_left (by omega)]; exact hg
    have := hD.1 _ _ _ _ hg2 hlast (by show B + (q - B) = q; omega)
    omega
  · omega
/-- behind a call -/
theorem xe_call {st0 rest : List Value} {a : Array Value} {mc ms : Nat} {r : Option Value} {M : xM} (hr : va_Run p l e R s m args below meth c H locs cells slots mc ms (F0 m pc ls st0) rest (xe_Qc D aC b B xs r M a) (xe_A B)) (hS : va_S (xe_A B) s.heap H locs)
    (kk : ∀ (H1 : Heap) (locs1 : List Loc), va_S (xe_A B) s.heap H1 locs1 → va_P D vwCl (xe_ws aC (xe_cv b B xs) B M) H1 → W p l e R s m args below meth c H1 locs1 (cells + mc) (slots + ms) Q (F0 m (pc + 3) ls ((r.map (xe_cv b B xs)).toList ++ rest))) : W p l e R s m args below meth c H locs cells slots Q (F0 m pc ls st0) := by
  intro T hT X
  obtain ⟨v, st₀, t, T', L, h0, X', hL, e1, e2, ⟨⟨hv, hp⟩, hz, hk⟩, st⟩ := hr T hT X
  have hv : v = r.map (xe_cv b B xs) := by cases hv; rfl
  subst hv
  rw [h0] at hz hk
  obtain ⟨t2, a1, b1⟩ := kk T'.heap (locs ++ L)
    ⟨Nat.le_trans hS.1 (by rw [e1]; exact hz), fun q h1 h2 => by rw [e1, hk q (Nat.lt_of_lt_of_le h1 hS.1) h2]; exact hS.2.1 q h1 h2, fun q hq => by
      rcases List.mem_append.mp hq with h | h
      · exact hS.2.2 q h
      · exact hL q h⟩ (by rw [e1]; exact hp) T' rfl X'
  exact ⟨t2, st t2 a1, b1⟩
end
end
section
/-! cells are counted as they are made -/
theorem xe_step2_len {sc : Option (List Value)} {oc : Nat} {ini : Bool} {i : Instr} {pc : Nat} {lv : xL} {st : List Value} {M : xM} {f : xF × xM} (h : xe_step2 sc oc ini i pc lv st M = some f) : f.2.length = M.length := by
  unfold xe_step2 at h
  unfold xb_getfield xb_putfield xb_iaload xb_iastore xb_aaload xb_aastore xb_arraylength xb_getstatic at h
  simp only [xse_eq] at h
  repeat' split at h
  all_goals first | (cases h; rfl) | (cases h; exact List.length_set ..) | cases h
theorem xe_made_len {o : Option xO} {n k : Nat} {r : xO} (h : xe_made o n = some r) (ho : ∀ r, o = some r → r.2.1.length = k + 1 + r.2.2.1) : r.2.1.length = k + r.2.2.1 := by
  unfold xe_made at h
  split at h
  · cases h
    have := ho _ rfl
    dsimp only
    omega
  · cases h
theorem xe_cont_len {ih : Nat → xL → List Value → xM → Option xO} {pc : Nat} {lv : xL} {rest : List Value} {M : xM} {o : Option xO} {r : xO} (hi : ∀ pc lv st M o, ih pc lv st M = some o → o.2.1.length = M.length + o.2.2.1) (ho : ∀ o1, o = some o1 → o1.2.1.length = M.length + o1.2.2.1) (h : xe_cont ih pc lv rest o = some r) : r.2.1.length = M.length + r.2.2.1 := by
  unfold xe_cont at h
  split at h
  · have h1 := ho _ rfl
    split at h
    · rename_i o2 ho2
      have h2 := hi _ _ _ _ _ ho2
      cases h
      dsimp only
      omega
    · cases h
  · cases h
theorem xe_end_len {rt : Nat} {i : Instr} {st : List Value} {M : xM} {r : xO} (h : xe_end rt i st M = some r) : r.2.1.length = M.length + r.2.2.1 := by
  unfold xe_end at h
  repeat' split at h
  all_goals first | (cases h; rfl) | cases h
theorem xe_step3_len {call0 call : Nat → List Value → xM → Option xO} {oc rt : Nat} {i : Instr} {pc : Nat} {lv : xL} {st : List Value} {M : xM} {ih : Nat → xL → List Value → xM → Option xO} {r : xO}
    (h0 : ∀ mn as M o, call0 mn as M = some o → o.2.1.length = M.length + o.2.2.1) (h1 : ∀ mn as M o, call mn as M = some o → o.2.1.length = M.length + o.2.2.1) (hi : ∀ pc lv st M o, ih pc lv st M = some o → o.2.1.length = M.length + o.2.2.1) (h : xe_step3 call0 call oc rt i pc lv st M ih = some r) : r.2.1.length = M.length + r.2.2.1 := by
  have ap : ∀ {x : xC} {pc lv st}, ∀ r, ih pc lv st (M ++ [x]) = some r → r.2.1.length = M.length + 1 + r.2.2.1 := fun r hr => by
    have := hi _ _ _ _ _ hr
    rw [List.length_append] at this
    exact this
  unfold xe_step3 at h
  split at h
  · unfold xd_new at h
    split at h
    · split at h
      · exact xe_made_len h ap
      · cases h
    · cases h
  · unfold xd_newarray at h
    split at h
    · split at h
      · exact xe_made_len h ap
      · cases h
    · cases h
  · unfold xd_anewarray at h
    split at h
    · split at h
      · split at h
        · exact xe_made_len h ap
        · cases h
      · cases h
    · cases h
  · unfold xd_invokestatic at h
    unfold xe_callS xe_copy at h
    simp only [xse_eq] at h
    repeat' split at h
    all_goals first | exact xe_cont_len hi (fun o1 z => h1 _ _ _ _ z) h | exact hi _ _ _ _ _ h | (have := hi _ _ _ _ _ h; rw [List.length_set] at this; exact this) | cases h
  · unfold xd_invokespecial at h
    unfold xe_callI at h
    repeat' split at h
    all_goals first | exact xe_cont_len hi (fun o1 z => h0 _ _ _ _ z) h | exact hi _ _ _ _ _ h | cases h
  · unfold xd_invokevirtual at h
    unfold xe_callV at h
    repeat' split at h
    all_goals first | exact xe_cont_len hi (fun o1 z => h1 _ _ _ _ z) h | exact hi _ _ _ _ _ h | cases h
  · unfold xd_ireturn at h
    exact xe_end_len h
  · unfold xd_lreturn at h
    exact xe_end_len h
  · unfold xd_areturn at h
    exact xe_end_len h
  · unfold xd_return_ at h
    exact xe_end_len h
  · cases h
theorem xe_run_len {iv : List (Int32 × Int32)} {a6 : Option Int32} {sc : Option (List Value)} {call0 call : Nat → List Value → xM → Option xO} {tb : xI} {oc nL rt : Nat} {ini : Bool} (h0 : ∀ mn as M o, call0 mn as M = some o → o.2.1.length = M.length + o.2.2.1) (h1 : ∀ mn as M o, call mn as M = some o → o.2.1.length = M.length + o.2.2.1) :
    ∀ (n pc : Nat) (lv : xL) (st : List Value) (M : xM) (o : xO), xe_run iv a6 sc call0 call tb oc nL rt ini n pc lv st M = some o → o.2.1.length = M.length + o.2.2.1 := by
  intro n
  induction n with
  | zero =>
    intro pc lv st M o h
    cases h
  | succ n ih =>
    intro pc lv st M o h
    have h : xe_body iv a6 sc call0 call tb oc nL rt ini (xe_run iv a6 sc call0 call tb oc nL rt ini n) pc lv st M = some o := h
    unfold xe_body at h
    split at h
    · cases h
    · split at h
      · exact ih _ _ _ _ _ h
      · split at h
        · rename_i g hg
          have := ih _ _ _ _ _ h
          rw [xe_step2_len hg] at this
          exact this
        · exact xe_step3_len h0 h1 ih h
theorem xe_ex_len : ∀ (f d mn : Nat) (as : List Value) (M : xM) (o : xO), xe_ex f d mn as M = some o → o.2.1.length = M.length + o.2.2.1 := by
  intro f d
  induction d with
  | zero =>
    intro mn as M o h
    cases h
  | succ d ih =>
    intro mn as M o h
    have h : (match xmF mn with
      | none => none
      | some q => if xe_cats as ≤ q.1.2.2.1 then xe_run [] none none (xe_ex f d) (xe_ex f d) q.1.1 q.1.2.1 q.1.2.2.1 q.1.2.2.2.1 q.1.2.2.2.2 f 0 (lv_args 0 as) [] M else none) = some o := h
    split at h
    · cases h
    · split at h
      · exact xe_run_len ih ih _ _ _ _ _ _ h
      · cases h
end
section
/-! the run is sound -/
theorem xe_made_ok {o : Option xO} {n : Nat} {r : Option Value} {M : xM} {c1 s1 : Nat} (h : xe_made o n = some (r, M, c1, s1)) : ∃ c2 s2, o = some (r, M, c2, s2) ∧ c1 = 1 + c2 ∧ s1 = n + s2 := by
  unfold xe_made at h
  split at h
  · rename_i o1
    obtain ⟨a1, a2, a3, a4⟩ := o1
    cases h
    exact ⟨_, _, rfl, rfl, rfl⟩
  · cases h
theorem xe_cont_ok {ih : Nat → xL → List Value → xM → Option xO} {pc : Nat} {lv : xL} {rest : List Value} {o : Option xO} {r : Option Value} {M2 : xM} {c1 s1 : Nat} (h : xe_cont ih pc lv rest o = some (r, M2, c1, s1)) : ∃ o1 c2 s2, o = some o1 ∧ ih (pc + 3) lv (o1.1.toList ++ rest) o1.2.1 = some (r, M2, c2, s2) ∧ c1 = o1.2.2.1 + c2 ∧ s1 = o1.2.2.2 + s2 := by
  unfold xe_cont at h
  split at h
  · rename_i o1
    split at h
    · rename_i o2 ho2
      obtain ⟨a1, a2, a3, a4⟩ := o2
      cases h
      exact ⟨o1, _, _, rfl, ho2, rfl, rfl⟩
    · cases h
  · cases h
theorem xe_plain_cv {b : Nat → Nat} {B : Nat} {xs : Nat → Int32} {vs : List Value} (h : vs.all xe_plain = true) : vs.map (xe_cv b B xs) = vs := by
  induction vs with
  | nil => rfl
  | cons v t ih =>
    rw [List.all_cons, Bool.and_eq_true] at h
    rw [List.map_cons, ih h.2]
    have h1 := h.1
    cases v <;> first | rfl | cases h1
theorem xe_zeros (aC : Nat → ClassId) (b : Nat → Nat) (B : Nat) (xs : Nat → Int32) (n : Nat) : (.inl (aC 0, n, .inl (fun _ => (0 : Int32))) : va_E) = xe_el aC (xe_cv b B xs) (12, List.replicate n (.int 0)) := by
  rw [xe_el_int, List.length_replicate]
  congr 4
  funext j
  rw [List.getD_eq_getElem?_getD, List.getElem?_replicate]
  split <;> rfl
theorem xe_nulls (aC : Nat → ClassId) (b : Nat → Nat) (B : Nat) (xs : Nat → Int32) (t n : Nat) : (.inl (aC (t + 1), n, .inr (.inr (.inr (.inr (fun _ => (none : Option Nat)))))) : va_E) = xe_el aC (xe_cv b B xs) (13 + t, List.replicate n .null) := by
  rw [xe_el_ref (by omega), List.length_replicate, show 13 + t - 12 = t + 1 by omega]
  congr 7
  funext j
  rw [List.getD_eq_getElem?_getD, List.getElem?_replicate]
  split <;> rfl
theorem xcpy_len {vs ws : List Value} {sp dp n : Nat} (h1 : sp + n ≤ vs.length) (h2 : dp + n ≤ ws.length) : (xcpy vs ws sp dp n).length = ws.length := by
  unfold xcpy
  simp only [List.length_append, List.length_take, List.length_drop]
  omega
theorem xcpy_get {vs ws : List Value} {sp dp n : Nat} (h1 : sp + n ≤ vs.length) (h2 : dp + n ≤ ws.length) (j : Nat) : (xcpy vs ws sp dp n)[j]? = if dp ≤ j ∧ j < dp + n then vs[sp + (j - dp)]? else ws[j]? := by
  unfold xcpy
  have hd : (ws.take dp).length = dp := by rw [List.length_take]; omega
  by_cases a : j < dp
  · rw [List.getElem?_append_left (by omega), if_neg (by omega), List.getElem?_take_of_lt a]
  · rw [List.getElem?_append_right (by omega), hd]
    have hn : ((vs.drop sp).take n).length = n := by rw [List.length_take, List.length_drop]; omega
    by_cases c : j < dp + n
    · rw [List.getElem?_append_left (by omega), if_pos ⟨by omega, c⟩, List.getElem?_take_of_lt (by omega), List.getElem?_drop]
    · rw [List.getElem?_append_right (by omega), hn, if_neg (by omega), List.getElem?_drop]
      congr 1
      omega
theorem xe_cpy {cv : Value → Value} {vs ws : List Value} {sp dp n : Nat} (h1 : sp + n ≤ vs.length) (h2 : dp + n ≤ ws.length) : va_cpy (fun j => xe_iof (cv (vs.getD j .null))) (fun j => xe_iof (cv (ws.getD j .null))) sp dp n = fun j => xe_iof (cv ((xcpy vs ws sp dp n).getD j .null)) := by
  funext j
  unfold va_cpy
  rw [List.getD_eq_getElem?_getD, xcpy_get h1 h2]
  split
  · dsimp only
    rw [List.getD_eq_getElem?_getD]
  · dsimp only
    rw [List.getD_eq_getElem?_getD]
theorem xe_res (b : Nat → Nat) (B : Nat) (xs : Nat → Int32) (r : Option Value) (rest : List Value) : (r.map (xe_cv b B xs)).toList ++ rest.map (xe_cv b B xs) = (r.toList ++ rest).map (xe_cv b B xs) := by cases r <;> rfl
theorem xe_ci {ci : Nat} {x : vw_C} (h : vwCl[ci]? = some x) : ci < 12 := (List.getElem?_eq_some_iff.mp h).1
section
variable {p : Program} {l : Launch} {e : Env} {R : Room} {s : State} {m : MethodId} {args : Array Value} {below : List Frame} {meth : Method} {c : Code} {H : Heap} {locs : List Loc} {cells slots : Nat} {Q : State → Prop}
variable {cc : ByteArray} {pc : Nat} {ls : Array Slot} {b : Nat → Nat} {B : Nat} {xs : Nat → Int32} {oc : Nat} {D : va_G} {aC : Nat → ClassId}
variable {call0 call : Nat → List Value → xM → Option xO} {ihf : Nat → xL → List Value → xM → Option xO} {nL rt d : Nat} {rF : Option Value} {MF M : xM} {mc ms c1 s1 : Nat} {lv : xL} {st : List Value}
set_option maxHeartbeats 4000000 in
theorem xe_callS_ok (hx : p.tables.exec = Jvm.exec) (hb : c.code = cc) (hml : c.maxLocals = nL) (hown : s.vm.findClass (RO oc) = some m.cls) (hts : ∀ w ∈ xWS, w.before args s = true) (hK : xe_K D aC b B s) (hB : B ≤ s.heap.size) (hRf : d + 1 ≤ R.frames) (hRl : 64 * (d + 1) ≤ R.locals) (hmc : mc ≤ R.cells) (hms : ms ≤ R.slots)
    (hclen : ∀ mn as M o, call mn as M = some o → o.2.1.length = M.length + o.2.2.1)
    (hcall : ∀ mn as M o, call mn as M = some o → ∀ q, xm mn = some q → Met l q.2.1 (Cond.code q.2.1 q.2.2.1 q.1.2.2.1 q.2.2.2.1 :: xWS) (xe_rm d o.2.2.1 o.2.2.2) (xe_Pc D aC b B xs as M) (xe_Qc D aC b B xs o.1 o.2.1) o.2.2.1 o.2.2.2 (xe_A B))
    (ih : ∀ (pc : Nat) (lv : xL) (st : List Value) (M : xM) (c1 s1 : Nat), ihf pc lv st M = some (rF, MF, c1, s1) → ∀ (H : Heap) (locs : List Loc) (cells slots : Nat) (ls : Array Slot), lv_has ls nL (xe_lm b B xs lv) → va_S (xe_A B) s.heap H locs → va_P D vwCl (xe_ws aC (xe_cv b B xs) B M) H → s.heap.size + cells = B + M.length → cells + c1 = mc → slots + s1 = ms → W p l e R s m args below meth c H locs cells slots Q (F0 m pc ls (st.map (xe_cv b B xs))))
    (hl : lv_has ls nL (xe_lm b B xs lv)) (hS : va_S (xe_A B) s.heap H locs) (hP : va_P D vwCl (xe_ws aC (xe_cv b B xs) B M) H) (hsz : s.heap.size + cells = B + M.length) (hc : cells + c1 = mc) (hs : slots + s1 = ms)
    {k : Nat} (hd : decode cc pc = .ok (.invokestatic k, 3)) (h : xe_callS call oc k pc lv st M ihf = some (rF, MF, c1, s1)) : W p l e R s m args below meth c H locs cells slots Q (F0 m pc ls (st.map (xe_cv b B xs))) := by
  unfold xe_callS at h
  rw [xcF_eq] at h
  simp only [xmF_eq] at h
  split at h
  · rename_i idx mn cis hxc
    split at h
    · rename_i q hq
      split at h
      · rename_i hn
        obtain ⟨o1, c2, s2, ho, hi2, e1, e2⟩ := xe_cont_ok h
        have hlen := hclen _ _ _ _ ho
        obtain ⟨⟨q', hq', w1, w2⟩, hidx⟩ := xc_ok hxc
        cases hq.symm.trans hq'
        dsimp only at hidx w1
        subst hidx
        obtain ⟨g1, g2, g3, g4, g5, g6, g7, g8, g9⟩ := xm_ok hq
        refine xe_sized fun hz => ?_
        have hsz' := xe_size hsz hz hS.1 hB hP
        refine xe_call (va_runS (As := (st.take q.2.2.2.2).reverse.map (xe_cv b B xs)) (rest := (st.drop q.2.2.2.2).map (xe_cv b B xs)) ⟨hx, hb, hml, hown, hts⟩ (hcall _ _ _ _ ho q hq) ⟨callB_of q.2.2.2.2 hts (xWS_good g2) rfl rfl rfl (hts _ g3) (hts _ w1) ⟨g4.2.1, g4.2.2, g9⟩ ⟨hRf, by show 8 + (q.1.2.2.1 + 11) + 64 * d ≤ R.locals; omega⟩, hts _ w2⟩ ⟨xe_blind, fun U hU hW => ⟨rfl, by rw [hU]; exact hsz', by rw [hU]; exact hP, hK.warm hW (fun q z1 z2 => by rw [hU]; exact hS.2.1 q z1 z2)⟩⟩ rfl (by simp [hn.1]) hl.1 (by show st.map (xe_cv b B xs) = _; rw [← List.map_reverse, List.reverse_reverse, ← List.map_append, List.take_append_drop]) (lv_room (by rw [xe_ssum]; exact of_decide_eq_true hn.2)) hd ⟨by omega, by omega⟩) hS (fun H1 locs1 z1 z2 => ?_)
        rw [xe_res]
        exact ih _ _ _ _ _ _ hi2 H1 locs1 _ _ ls hl z1 z2 (by omega) (by omega) (by omega)
      · cases h
    · cases h
  · rename_i idx mn cis hxc
    obtain ⟨⟨w1, w2, w3, w4⟩, hidx⟩ := xc_ok hxc
    dsimp only at hidx w1
    subst hidx
    unfold xe_copy at h
    simp only [xg_eq, xse_eq, xln_eq, xlt_iff] at h
    split at h
    · rename_i n dp da sp sa r
      split at h
      · rename_i q0 hq0
        split at h
        · rename_i q1 hq1
          obtain ⟨t0, vs⟩ := q0
          obtain ⟨t1, ws⟩ := q1
          split at h
          · rename_i hn
            obtain ⟨⟨rfl, rfl⟩, ⟨n1, n2, n3⟩, ⟨n4, n5⟩, n6⟩ := hn
            have hw0 := xe_ws_get (aC := aC) (cv := xe_cv b B xs) (B := B) hq0
            have hw1 := xe_ws_get (aC := aC) (cv := xe_cv b B xs) (B := B) hq1
            rw [xe_el_int] at hw0 hw1
            have hr := of_decide_eq_true n6
            refine va_copyi (ty := .int) hx hb (hml.trans hl.1.symm) hown (hts _ w1) (hts _ w2) (hts _ w3) (hts _ w4) hK.1 hP xe_ws_D hS sa da 0 0 hw0 hw1 rfl rfl rfl n1 n2 n3 n4 n5 (fun _ _ => rfl) (by omega) (by rw [xe_ssum]; exact Nat.le_trans (Nat.add_le_add_right hr _) (Nat.le_trans (by decide) (Nat.le_trans (by omega : 64 ≤ 64 * (d + 1)) hRl))) hd (fun H1 locs1 z1 _ z3 => ?_)
            rw [xe_cpy (cv := xe_cv b B xs) n4 n5] at z1
            have e9 : (.inl (aC 0, ws.length, .inl (fun j => xe_iof (xe_cv b B xs ((xcpy vs ws sp.toNatClampNeg dp.toNatClampNeg n.toNatClampNeg).getD j .null)))) : va_E) = xe_el aC (xe_cv b B xs) (12, xcpy vs ws sp.toNatClampNeg dp.toNatClampNeg n.toNatClampNeg) := by
              rw [xe_el_int, xcpy_len n4 n5]
            rw [e9, xe_ws_set] at z1
            exact ih _ _ _ _ _ _ h H1 locs1 cells slots ls hl z3 z1 (by rw [List.length_set]; exact hsz) hc hs
          · cases h
        · cases h
      · cases h
    · cases h
  · rename_i idx mn cis hxc
    split at h
    · rename_i q hq
      split at h
      · rename_i hn
        obtain ⟨o1, c2, s2, ho, hi2, e1, e2⟩ := xe_cont_ok h
        have hlen := hclen _ _ _ _ ho
        obtain ⟨⟨q', hq', x, x1, x2, w1, w3, w2⟩, hidx⟩ := xc_ok hxc
        cases hq.symm.trans hq'
        dsimp only at hidx w1
        subst hidx
        obtain ⟨g1, g2, g3, g4, g5, g6, g7, g8, g9⟩ := xm_ok hq
        refine xe_sized fun hz => ?_
        have hsz' := xe_size hsz hz hS.1 hB hP
        refine xe_call (xs_runSO (As := (st.take q.2.2.2.2).reverse.map (xe_cv b B xs)) (rest := (st.drop q.2.2.2.2).map (xe_cv b B xs)) ⟨hx, hb, hml, hown, hts⟩ (hcall _ _ _ _ ho q hq) ⟨⟨rfl, rfl, hRf, by show 8 + (q.1.2.2.1 + 11) + 64 * d ≤ R.locals; omega, pay_in hts (xWS_good g2), List.mem_cons_self⟩, hts _ g2, hts _ g3, ⟨g4.2.1, g4.2.2⟩, fun sig z => by rw [z] at g9; exact (Option.some.inj g9).symm⟩ x1 x2 (hts _ w1) (hts _ w3) (hts _ w2) ⟨xe_blind, fun U hU hW => ⟨rfl, by rw [hU]; exact hsz', by rw [hU]; exact hP, hK.warm hW (fun q z1 z2 => by rw [hU]; exact hS.2.1 q z1 z2)⟩⟩ rfl (by simp [hn.1]) hl.1 (by show st.map (xe_cv b B xs) = _; rw [← List.map_reverse, List.reverse_reverse, ← List.map_append, List.take_append_drop]) (lv_room (by rw [xe_ssum]; exact of_decide_eq_true hn.2)) hd ⟨by omega, by omega⟩) hS (fun H1 locs1 z1 z2 => ?_)
        rw [xe_res]
        exact ih _ _ _ _ _ _ hi2 H1 locs1 _ _ ls hl z1 z2 (by omega) (by omega) (by omega)
      · cases h
    · cases h
  · rename_i idx mn cis hxc
    split at h
    · rename_i q hq
      split at h
      · rename_i hn
        obtain ⟨o1, c2, s2, ho, hi2, e1, e2⟩ := xe_cont_ok h
        have hlen := hclen _ _ _ _ ho
        obtain ⟨⟨q', hq', w1, w2⟩, hidx⟩ := xc_ok hxc
        cases hq.symm.trans hq'
        dsimp only at hidx w1
        subst hidx
        obtain ⟨g1, g2, g3, g4, g5, g6, g7, g8, g9⟩ := xm_ok hq
        refine xe_sized fun hz => ?_
        have hsz' := xe_size hsz hz hS.1 hB hP
        refine xe_call (va_runSN (As := (st.take q.2.2.2.2).reverse.map (xe_cv b B xs)) (rest := (st.drop q.2.2.2.2).map (xe_cv b B xs)) ⟨hx, hb, hml, hown, hts⟩ (hcall _ _ _ _ ho q hq) ⟨va_cnB q.2.2.2.2 hts (xWS_good g2) rfl rfl rfl (hK.2.2.1 _ w1) (hts _ g3) ⟨g4.2.1, g4.2.2, g9⟩ ⟨hRf, by show 8 + (q.1.2.2.1 + 11) + 64 * d ≤ R.locals; omega⟩, hts _ w2, trivial⟩ ⟨xe_blind, fun U hU hW => ⟨rfl, by rw [hU]; exact hsz', by rw [hU]; exact hP, hK.warm hW (fun q z1 z2 => by rw [hU]; exact hS.2.1 q z1 z2)⟩⟩ rfl (by simp [hn.1]) hl.1 (by show st.map (xe_cv b B xs) = _; rw [← List.map_reverse, List.reverse_reverse, ← List.map_append, List.take_append_drop]) (lv_room (by rw [xe_ssum]; exact of_decide_eq_true hn.2)) hd ⟨by omega, by omega⟩) hS (fun H1 locs1 z1 z2 => ?_)
        rw [xe_res]
        exact ih _ _ _ _ _ _ hi2 H1 locs1 _ _ ls hl z1 z2 (by omega) (by omega) (by omega)
      · cases h
    · cases h
  · rename_i idx mn cis hxc
    split at h
    · split at h
      · rename_i hn
        obtain ⟨⟨w1, w2, w3, w4⟩, hidx⟩ := xc_ok hxc
        dsimp only at hidx w1
        subst hidx
        have hr := of_decide_eq_true hn
        exact va_mmax hx hb (hml.trans hl.1.symm) hown (hts _ w1) (hts _ w2) (hts _ w3) (hts _ w4) (by omega) (by rw [xe_ssum]; omega) (by omega) (by omega) hd (ih _ _ _ _ _ _ h H locs cells slots ls hl hS hP hsz hc hs)
      · cases h
    · cases h
  · rename_i idx mn cis hxc
    split at h
    · split at h
      · rename_i hn
        obtain ⟨⟨w1, w2, w3, w4⟩, hidx⟩ := xc_ok hxc
        dsimp only at hidx w1
        subst hidx
        have hr := of_decide_eq_true hn
        exact va_mmin hx hb (hml.trans hl.1.symm) hown (hts _ w1) (hts _ w2) (hts _ w3) (hts _ w4) (by omega) (by rw [xe_ssum]; omega) (by omega) (by omega) hd (ih _ _ _ _ _ _ h H locs cells slots ls hl hS hP hsz hc hs)
      · cases h
    · cases h
  · cases h
set_option maxHeartbeats 4000000 in
theorem xe_callI_ok (hx : p.tables.exec = Jvm.exec) (hb : c.code = cc) (hml : c.maxLocals = nL) (hown : s.vm.findClass (RO oc) = some m.cls) (hts : ∀ w ∈ xWS, w.before args s = true) (hK : xe_K D aC b B s) (hB : B ≤ s.heap.size) (hRf : d + 1 ≤ R.frames) (hRl : 64 * (d + 1) ≤ R.locals) (hmc : mc ≤ R.cells) (hms : ms ≤ R.slots)
    (hclen : ∀ mn as M o, call mn as M = some o → o.2.1.length = M.length + o.2.2.1)
    (hcall : ∀ mn as M o, call mn as M = some o → ∀ q, xm mn = some q → Met l q.2.1 (Cond.code q.2.1 q.2.2.1 q.1.2.2.1 q.2.2.2.1 :: xWS) (xe_rm d o.2.2.1 o.2.2.2) (xe_Pc D aC b B xs as M) (xe_Qc D aC b B xs o.1 o.2.1) o.2.2.1 o.2.2.2 (xe_A B))
    (ih : ∀ (pc : Nat) (lv : xL) (st : List Value) (M : xM) (c1 s1 : Nat), ihf pc lv st M = some (rF, MF, c1, s1) → ∀ (H : Heap) (locs : List Loc) (cells slots : Nat) (ls : Array Slot), lv_has ls nL (xe_lm b B xs lv) → va_S (xe_A B) s.heap H locs → va_P D vwCl (xe_ws aC (xe_cv b B xs) B M) H → s.heap.size + cells = B + M.length → cells + c1 = mc → slots + s1 = ms → W p l e R s m args below meth c H locs cells slots Q (F0 m pc ls (st.map (xe_cv b B xs))))
    (hl : lv_has ls nL (xe_lm b B xs lv)) (hS : va_S (xe_A B) s.heap H locs) (hP : va_P D vwCl (xe_ws aC (xe_cv b B xs) B M) H) (hsz : s.heap.size + cells = B + M.length) (hc : cells + c1 = mc) (hs : slots + s1 = ms)
    {k : Nat} (hd : decode cc pc = .ok (.invokespecial k, 3)) (h : xe_callI call oc k pc lv st M ihf = some (rF, MF, c1, s1)) : W p l e R s m args below meth c H locs cells slots Q (F0 m pc ls (st.map (xe_cv b B xs))) := by
  unfold xe_callI at h
  rw [xcF_eq] at h
  simp only [xmF_eq, xg_eq] at h
  split at h
  · rename_i idx mn cis hxc
    split at h
    · rename_i q hq
      split at h
      · rename_i a r hst
        split at h
        · rename_i hn
          obtain ⟨o1, c2, s2, ho, hi2, e1, e2⟩ := xe_cont_ok h
          have hlen := hclen _ _ _ _ ho
          obtain ⟨⟨q', hq', w1, w2, w3, w4⟩, hidx⟩ := xc_ok hxc
          cases hq.symm.trans hq'
          dsimp only at hidx w1
          subst hidx
          obtain ⟨g1, g2, g3, g4, g5, g6, g7, g8, g9⟩ := xm_ok hq
          have hM := hcall _ _ _ _ ho q hq
          rw [w4] at hM g2
          have hlt : q.2.2.2.2 < st.length := Nat.lt_of_not_le fun z => by rw [List.drop_eq_nil_of_le z] at hst; cases hst
          refine xe_sized fun hz => ?_
          have hsz' := xe_size hsz hz hS.1 hB hP
          refine xe_call (va_runI (b := B + a) (As := (st.take q.2.2.2.2).reverse.map (xe_cv b B xs)) (rest := r.map (xe_cv b B xs)) ⟨hx, hb, hml, hown, hts⟩ hM ⟨callB_of q.2.2.2.2 hts (xWS_good g2) rfl rfl rfl (hts _ g3) (hts _ w1) ⟨g4.2.1, g4.2.2, g9⟩ ⟨hRf, by show 8 + (q.1.2.2.1 + 11) + 64 * d ≤ R.locals; omega⟩, w3, hts _ w2⟩ ⟨xe_blind, fun U hU hW => ⟨rfl, by rw [hU]; exact hsz', by rw [hU]; exact hP, hK.warm hW (fun q z1 z2 => by rw [hU]; exact hS.2.1 q z1 z2)⟩⟩ rfl (by simp; omega) hl.1 (by show st.map (xe_cv b B xs) = _; rw [← List.map_reverse, List.reverse_reverse, show (Value.ref (B + a) :: r.map (xe_cv b B xs)) = (Value.ref a :: r).map (xe_cv b B xs) from rfl, ← hst, ← List.map_append, List.take_append_drop]) (lv_room (by rw [xe_ssum]; exact of_decide_eq_true hn)) hd ⟨by omega, by omega⟩) hS (fun H1 locs1 z1 z2 => ?_)
          rw [xe_res]
          exact ih _ _ _ _ _ _ hi2 H1 locs1 _ _ ls hl z1 z2 (by omega) (by omega) (by omega)
        · cases h
      · cases h
    · cases h
  · rename_i idx mn cis hxc
    split at h
    · rename_i q hq
      split at h
      · rename_i a r hst
        split at h
        · rename_i hn
          obtain ⟨o1, c2, s2, ho, hi2, e1, e2⟩ := xe_cont_ok h
          have hlen := hclen _ _ _ _ ho
          obtain ⟨⟨q', hq', w1, w2, w3, w4⟩, hidx⟩ := xc_ok hxc
          cases hq.symm.trans hq'
          dsimp only at hidx w1
          subst hidx
          obtain ⟨g1, g2, g3, g4, g5, g6, g7, g8, g9⟩ := xm_ok hq
          have hM := hcall _ _ _ _ ho q hq
          rw [w4] at hM g2
          have hlt : q.2.2.2.2 < st.length := Nat.lt_of_not_le fun z => by rw [List.drop_eq_nil_of_le z] at hst; cases hst
          refine xe_sized fun hz => ?_
          have hsz' := xe_size hsz hz hS.1 hB hP
          refine xe_call (va_runIN (b := B + a) (As := (st.take q.2.2.2.2).reverse.map (xe_cv b B xs)) (rest := r.map (xe_cv b B xs)) ⟨hx, hb, hml, hown, hts⟩ hM ⟨va_cnB q.2.2.2.2 hts (xWS_good g2) rfl rfl rfl (hK.2.2.1 _ w1) (hts _ g3) ⟨g4.2.1, g4.2.2, g9⟩ ⟨hRf, by show 8 + (q.1.2.2.1 + 11) + 64 * d ≤ R.locals; omega⟩, w3, hts _ w2⟩ ⟨xe_blind, fun U hU hW => ⟨rfl, by rw [hU]; exact hsz', by rw [hU]; exact hP, hK.warm hW (fun q z1 z2 => by rw [hU]; exact hS.2.1 q z1 z2)⟩⟩ rfl (by simp; omega) hl.1 (by show st.map (xe_cv b B xs) = _; rw [← List.map_reverse, List.reverse_reverse, show (Value.ref (B + a) :: r.map (xe_cv b B xs)) = (Value.ref a :: r).map (xe_cv b B xs) from rfl, ← hst, ← List.map_append, List.take_append_drop]) (lv_room (by rw [xe_ssum]; exact of_decide_eq_true hn)) hd ⟨by omega, by omega⟩) hS (fun H1 locs1 z1 z2 => ?_)
          rw [xe_res]
          exact ih _ _ _ _ _ _ hi2 H1 locs1 _ _ ls hl z1 z2 (by omega) (by omega) (by omega)
        · cases h
      · cases h
    · cases h
  · rename_i idx mn cis hxc
    split at h
    · rename_i q hq
      split at h
      · rename_i a r hst
        split at h
        · rename_i q0 hq0
          obtain ⟨ci, fs⟩ := q0
          split at h
          · rename_i hn
            obtain ⟨o1, c2, s2, ho, hi2, e1, e2⟩ := xe_cont_ok h
            have hlen := hclen _ _ _ _ ho
            obtain ⟨⟨q', hq', w1, w2, w3, w4, w5⟩, hidx⟩ := xc_ok hxc
            cases hq.symm.trans hq'
            dsimp only at hidx w1 w3
            subst hidx
            obtain ⟨g1, g2, g3, g4, g5, g6, g7, g8, g9⟩ := xm_ok hq
            have hlt : q.2.2.2.2 < st.length := Nat.lt_of_not_le fun z => by rw [List.drop_eq_nil_of_le z] at hst; cases hst
            have hw := xe_ws_get (aC := aC) (cv := xe_cv b B xs) (B := B) hq0
            rw [xe_el_obj hn.1] at hw
            obtain ⟨C, T, N, hC⟩ : ∃ C T N, vwCl[ci]? = some (C, T, N) := ⟨_, _, _, List.getElem?_eq_getElem (show ci < vwCl.length from hn.1)⟩
            refine xe_sized fun hz => ?_
            have hsz' := xe_size hsz hz hS.1 hB hP
            refine xe_call (va_runSU (C := C) (b := B + a) (As := (st.take q.2.2.2.2).reverse.map (xe_cv b B xs)) (rest := r.map (xe_cv b B xs)) (hK.1.1 ci _ hC).2 ⟨hx, hb, hml, hown, hts⟩ (hcall _ _ _ _ ho q hq) ⟨⟨rfl, rfl, hRf, by show 8 + (q.1.2.2.1 + 11) + 64 * d ≤ R.locals; omega, pay_in hts (xWS_good g2), List.mem_cons_self⟩, hts _ w1, hts _ w2, hts _ w3, hts _ w4, hts _ g3, hts _ g2, w5, fun sig z => by rw [z] at g9; exact (Option.some.inj g9).symm⟩ ⟨xe_blind, va_recv hK.1 hP hC hw, fun U hU hW => ⟨rfl, by rw [hU]; exact hsz', by rw [hU]; exact hP, hK.warm hW (fun q z1 z2 => by rw [hU]; exact hS.2.1 q z1 z2)⟩⟩ rfl (by simp; omega) hl.1 (by show st.map (xe_cv b B xs) = _; rw [← List.map_reverse, List.reverse_reverse, show (Value.ref (B + a) :: r.map (xe_cv b B xs)) = (Value.ref a :: r).map (xe_cv b B xs) from rfl, ← hst, ← List.map_append, List.take_append_drop]) (lv_room (by rw [xe_ssum]; exact of_decide_eq_true hn.2)) hd ⟨by omega, by omega⟩) hS (fun H1 locs1 z1 z2 => ?_)
            rw [xe_res]
            exact ih _ _ _ _ _ _ hi2 H1 locs1 _ _ ls hl z1 z2 (by omega) (by omega) (by omega)
          · cases h
        · cases h
      · cases h
    · cases h
  · rename_i idx mn cis hxc
    split at h
    · rename_i a r
      split at h
      · rename_i hn
        obtain ⟨⟨w1, w2, w3⟩, hidx⟩ := xc_ok hxc
        dsimp only at hidx w1
        subst hidx
        have hsum : ((r.map (xe_cv b B xs)).map fun v => v.category).sum ≤ 8 := by rw [xe_ssum]; exact of_decide_eq_true hn
        have hroom : 2 * (F0 m pc ls (Value.ref (B + a) :: r.map (xe_cv b B xs))).monitorRoom + ((r.map (xe_cv b B xs)).map fun v => v.category).sum ≤ 8 := lv_room hsum
        exact W.objInit (a := B + a) (rest := r.map (xe_cv b B xs)) hx hb hown (hts _ w1) (hts _ w2) (hts _ w3) rfl (hl.1.trans hml.symm) rfl hd (by omega) (Nat.le_trans (Nat.add_le_add_right hroom 12) (by omega)) (ih _ _ _ _ _ _ h H locs cells slots ls hl hS hP hsz hc hs)
      · cases h
    · cases h
  · cases h
set_option maxHeartbeats 4000000 in
theorem xe_callV_ok (hx : p.tables.exec = Jvm.exec) (hb : c.code = cc) (hml : c.maxLocals = nL) (hown : s.vm.findClass (RO oc) = some m.cls) (hts : ∀ w ∈ xWS, w.before args s = true) (hK : xe_K D aC b B s) (hB : B ≤ s.heap.size) (hRf : d + 1 ≤ R.frames) (hRl : 64 * (d + 1) ≤ R.locals) (hmc : mc ≤ R.cells) (hms : ms ≤ R.slots)
    (hclen : ∀ mn as M o, call mn as M = some o → o.2.1.length = M.length + o.2.2.1)
    (hcall : ∀ mn as M o, call mn as M = some o → ∀ q, xm mn = some q → Met l q.2.1 (Cond.code q.2.1 q.2.2.1 q.1.2.2.1 q.2.2.2.1 :: xWS) (xe_rm d o.2.2.1 o.2.2.2) (xe_Pc D aC b B xs as M) (xe_Qc D aC b B xs o.1 o.2.1) o.2.2.1 o.2.2.2 (xe_A B))
    (ih : ∀ (pc : Nat) (lv : xL) (st : List Value) (M : xM) (c1 s1 : Nat), ihf pc lv st M = some (rF, MF, c1, s1) → ∀ (H : Heap) (locs : List Loc) (cells slots : Nat) (ls : Array Slot), lv_has ls nL (xe_lm b B xs lv) → va_S (xe_A B) s.heap H locs → va_P D vwCl (xe_ws aC (xe_cv b B xs) B M) H → s.heap.size + cells = B + M.length → cells + c1 = mc → slots + s1 = ms → W p l e R s m args below meth c H locs cells slots Q (F0 m pc ls (st.map (xe_cv b B xs))))
    (hl : lv_has ls nL (xe_lm b B xs lv)) (hS : va_S (xe_A B) s.heap H locs) (hP : va_P D vwCl (xe_ws aC (xe_cv b B xs) B M) H) (hsz : s.heap.size + cells = B + M.length) (hc : cells + c1 = mc) (hs : slots + s1 = ms)
    {k : Nat} (hd : decode cc pc = .ok (.invokevirtual k, 3)) (h : xe_callV call oc k pc lv st M ihf = some (rF, MF, c1, s1)) : W p l e R s m args below meth c H locs cells slots Q (F0 m pc ls (st.map (xe_cv b B xs))) := by
  unfold xe_callV at h
  rw [xcF_eq] at h
  simp only [xmF_eq, xg_eq, xfd_eq] at h
  split at h
  · rename_i idx n rs hxc
    split at h
    · rename_i a r hst
      split at h
      · rename_i q0 hq0
        obtain ⟨ci, fs⟩ := q0
        split at h
        · rename_i e0 he0
          split at h
          · rename_i q hq
            split at h
            · rename_i hn
              obtain ⟨hci, hnn, hsum⟩ := hn
              obtain ⟨o1, c2, s2, ho, hi2, e1, e2⟩ := xe_cont_ok h
              have hlen := hclen _ _ _ _ ho
              obtain ⟨hG, hidx⟩ := xc_ok hxc
              dsimp only at hidx
              subst hidx
              obtain ⟨C, T, N, q', v1, hq', w1, w2, hor⟩ := hG e0 (List.mem_of_find?_eq_some he0)
              cases hq.symm.trans hq'
              have hr0 : e0.1 = ci := by simpa using List.find?_some he0
              rw [hr0] at v1
              obtain ⟨g1, g2, g3, g4, g5, g6, g7, g8, g9⟩ := xm_ok hq
              have hlt : n < st.length := Nat.lt_of_not_le fun z => by rw [List.drop_eq_nil_of_le z] at hst; cases hst
              have hw := xe_ws_get (aC := aC) (cv := xe_cv b B xs) (B := B) hq0
              rw [xe_el_obj hci] at hw
              refine xe_sized fun hz => ?_
              have hsz' := xe_size hsz hz hS.1 hB hP
              have hpre : PreV s H C (B + a) (xe_Pc D aC b B xs (.ref a :: (st.take n).reverse) M) ((st.take n).reverse.map (xe_cv b B xs)) := ⟨xe_blind, va_recv hK.1 hP v1 hw, fun U hU hW => ⟨rfl, by rw [hU]; exact hsz', by rw [hU]; exact hP, hK.warm hW (fun q z1 z2 => by rw [hU]; exact hS.2.1 q z1 z2)⟩⟩
              have hroom : 8 + (q.1.2.2.1 + 11) + (xe_rm d o1.2.2.1 o1.2.2.2).locals ≤ R.locals := by show 8 + (q.1.2.2.1 + 11) + 64 * d ≤ R.locals; omega
              have hstk : st.map (xe_cv b B xs) = ((st.take n).reverse.map (xe_cv b B xs)).reverse ++ Value.ref (B + a) :: r.map (xe_cv b B xs) := by rw [← List.map_reverse, List.reverse_reverse, show (Value.ref (B + a) :: r.map (xe_cv b B xs)) = (Value.ref a :: r).map (xe_cv b B xs) from rfl, ← hst, ← List.map_append, List.take_append_drop]
              have hal : ((st.take n).reverse.map (xe_cv b B xs)).length = q.2.2.2.2 := by simp; omega
              have kk : ∀ (H1 : Heap) (locs1 : List Loc), va_S (xe_A B) s.heap H1 locs1 → va_P D vwCl (xe_ws aC (xe_cv b B xs) B o1.2.1) H1 → W p l e R s m args below meth c H1 locs1 (cells + o1.2.2.1) (slots + o1.2.2.2) Q (F0 m (pc + 3) ls ((o1.1.map (xe_cv b B xs)).toList ++ r.map (xe_cv b B xs))) := fun H1 locs1 z1 z2 => by
                rw [xe_res]
                exact ih _ _ _ _ _ _ hi2 H1 locs1 _ _ ls hl z1 z2 (by omega) (by omega) (by omega)
              rcases hor with ⟨x1, x2⟩ | ⟨x, owner, x1, x2, x3, x4, x5, x6⟩
              · dsimp only at x1
                exact xe_call (va_runV (C := C) (b := B + a) (As := (st.take n).reverse.map (xe_cv b B xs)) (rest := r.map (xe_cv b B xs)) ⟨hx, hb, hml, hown, hts⟩ (hcall _ _ _ _ ho q hq) ⟨callB_of q.2.2.2.2 hts (xWS_good g2) rfl rfl rfl (hts _ g3) (hts _ x1) ⟨g4.2.1, g4.2.2, g9⟩ ⟨hRf, hroom⟩, hts _ w1, hts _ x2⟩ hpre rfl hal hl.1 hstk (lv_room (by rw [xe_ssum]; exact of_decide_eq_true hsum)) hd ⟨by omega, by omega⟩) hS kk
              · dsimp only at x1
                have hdecl : va_Decl s ⟨owner, x.name, x.desc⟩ := by
                  rcases x5 with ⟨y1, bb, mm, rr, y2⟩ | y1
                  · exact va_Decl.of (hts _ y1) (hts _ y2)
                  · exact va_Decl.abs (hK.2.2.1 _ y1)
                exact xe_call (va_runU (C := C) (x := x) (owner := owner) (b := B + a) (As := (st.take n).reverse.map (xe_cv b B xs)) (rest := r.map (xe_cv b B xs)) ⟨hx, hb, hml, hown, hts⟩ (hcall _ _ _ _ ho q hq) ⟨⟨rfl, rfl, hRf, hroom, pay_in hts (xWS_good g2), List.mem_cons_self⟩, hts _ g2, hts _ g3, x3, fun sig z => by rw [z] at x4; exact (Option.some.inj x4).symm, hts _ x1, hts _ x2, hdecl, hts _ x6, hts _ w1⟩ hpre rfl hal hl.1 hstk (lv_room (by rw [xe_ssum]; exact of_decide_eq_true hsum)) hd ⟨by omega, by omega⟩) hS kk
            · cases h
          · cases h
        · cases h
      · cases h
    · cases h
  · cases h
set_option maxHeartbeats 4000000 in
theorem xe_step3_ok (hx : p.tables.exec = Jvm.exec) (hb : c.code = cc) (hml : c.maxLocals = nL) (hown : s.vm.findClass (RO oc) = some m.cls) (hts : ∀ w ∈ xWS, w.before args s = true) (hK : xe_K D aC b B s) (hB : B ≤ s.heap.size) (hRf : d + 1 ≤ R.frames) (hRl : 64 * (d + 1) ≤ R.locals) (hmc : mc ≤ R.cells) (hms : ms ≤ R.slots)
    (hclen0 : ∀ mn as M o, call0 mn as M = some o → o.2.1.length = M.length + o.2.2.1)
    (hclen : ∀ mn as M o, call mn as M = some o → o.2.1.length = M.length + o.2.2.1)
    (hcall0 : ∀ mn as M o, call0 mn as M = some o → ∀ q, xm mn = some q → Met l q.2.1 (Cond.code q.2.1 q.2.2.1 q.1.2.2.1 q.2.2.2.1 :: xWS) (xe_rm d o.2.2.1 o.2.2.2) (xe_Pc D aC b B xs as M) (xe_Qc D aC b B xs o.1 o.2.1) o.2.2.1 o.2.2.2 (xe_A B))
    (hcall : ∀ mn as M o, call mn as M = some o → ∀ q, xm mn = some q → Met l q.2.1 (Cond.code q.2.1 q.2.2.1 q.1.2.2.1 q.2.2.2.1 :: xWS) (xe_rm d o.2.2.1 o.2.2.2) (xe_Pc D aC b B xs as M) (xe_Qc D aC b B xs o.1 o.2.1) o.2.2.1 o.2.2.2 (xe_A B))
    (hend : ∀ (i : Instr) (pc : Nat) (ls : Array Slot) (H : Heap) (locs : List Loc), xe_isret rt i rF = true → decode cc pc = .ok (i, 1) → va_S (xe_A B) s.heap H locs → va_P D vwCl (xe_ws aC (xe_cv b B xs) B MF) H → W p l e R s m args below meth c H locs mc ms Q (F0 m pc ls (rF.map (xe_cv b B xs)).toList))
    (ih : ∀ (pc : Nat) (lv : xL) (st : List Value) (M : xM) (c1 s1 : Nat), ihf pc lv st M = some (rF, MF, c1, s1) → ∀ (H : Heap) (locs : List Loc) (cells slots : Nat) (ls : Array Slot), lv_has ls nL (xe_lm b B xs lv) → va_S (xe_A B) s.heap H locs → va_P D vwCl (xe_ws aC (xe_cv b B xs) B M) H → s.heap.size + cells = B + M.length → cells + c1 = mc → slots + s1 = ms → W p l e R s m args below meth c H locs cells slots Q (F0 m pc ls (st.map (xe_cv b B xs))))
    (hl : lv_has ls nL (xe_lm b B xs lv)) (hS : va_S (xe_A B) s.heap H locs) (hP : va_P D vwCl (xe_ws aC (xe_cv b B xs) B M) H) (hsz : s.heap.size + cells = B + M.length) (hc : cells + c1 = mc) (hs : slots + s1 = ms)
    {i : Instr} {len : Nat} (hd : decode cc pc = .ok (i, xe_len i len)) (h : xe_step3 call0 call oc rt i pc lv st M ihf = some (rF, MF, c1, s1)) : W p l e R s m args below meth c H locs cells slots Q (F0 m pc ls (st.map (xe_cv b B xs))) := by
  have hA : ∀ q : Nat, s.heap.size ≤ q → xe_A B q := fun q z => Nat.le_trans hB z
  have fin : ∀ i, xe_len i len = 1 → decode cc pc = .ok (i, xe_len i len) → xe_end rt i st M = some (rF, MF, c1, s1) → W p l e R s m args below meth c H locs cells slots Q (F0 m pc ls (st.map (xe_cv b B xs))) := by
    intro i h1 hd h
    rw [h1] at hd
    unfold xe_end at h
    split at h
    · split at h
      · rename_i hr
        cases h
        have e1 : cells = mc := by omega
        have e2 : slots = ms := by omega
        subst e1; subst e2
        exact hend i pc ls H locs hr hd hS hP
      · cases h
    · split at h
      · rename_i hr
        cases h
        have e1 : cells = mc := by omega
        have e2 : slots = ms := by omega
        subst e1; subst e2
        exact hend i pc ls H locs hr hd hS hP
      · cases h
    · cases h
  unfold xe_step3 at h
  split at h
  · unfold xd_new at h
    simp only [xln_eq] at h
    split at h
    · rename_i e0 he0
      split at h
      · rename_i hpl
        obtain ⟨c2, s2, hi2, e1, e2⟩ := xe_made_ok h
        obtain ⟨⟨C, T, N, ty, h1, h2, h3, h4, h5, h6, h7⟩, hidx⟩ := xn_ok he0
        subst hidx
        refine va_new (ci := e0.2.1) (fs := e0.2.2) hx hb hts (xcl_ok _ _ _ _ h1).1 ty h5 hown (hts _ h2) (hts _ h3) (hts _ h4) hK.1 hP xe_ws_D hS hA h1 h6 (by omega) (by omega) hd (fun q H1 z1 z2 z3 => xe_sized fun hz => ?_)
        have hq := xe_newad hsz hz z1 z2
        subst hq
        have e9 : (.inr (e0.2.1, e0.2.2) : va_E) = xe_el aC (xe_cv b B xs) (e0.2.1, e0.2.2) := by rw [xe_el_obj (xe_ci h1), xe_plain_cv hpl]
        rw [e9, xe_ws_app] at z1
        exact ih _ _ _ _ _ _ hi2 H1 locs _ _ ls hl z3 z1 (by rw [List.length_append]; simp; omega) (by omega) (by omega)
      · cases h
    · cases h
  · unfold xd_newarray at h
    simp only [xln_eq] at h
    split at h
    · rename_i n r
      split at h
      · rename_i hn
        obtain ⟨c2, s2, hi2, e1, e2⟩ := xe_made_ok h
        refine va_newa (atype := .int) (ty := .int) (a0 := (n.toNatClampNeg, .inl (fun _ => 0))) hx hb (hts _ xai) rfl hK.1 hP xe_ws_D hS hA (fun _ => rfl) hn.1 rfl (by show n.toNatClampNeg * 4 ≤ 536870912; omega) (by omega) (by omega) hd (fun q cA H1 z0 z1 z2 z3 => xe_sized fun hz => ?_)
        have hq := xe_newad hsz hz z1 z2
        subst hq
        have ec : cA = aC 0 := Option.some.inj ((z0.2 4 _ rfl).2.symm.trans (hK.1.2 0 _ rfl).2)
        subst ec
        rw [xe_zeros aC b B xs, xe_ws_app] at z1
        exact ih _ _ _ _ _ _ hi2 H1 locs _ _ ls hl z3 z1 (by rw [List.length_append]; simp; omega) (by omega) (by omega)
      · cases h
    · cases h
  · unfold xd_anewarray at h
    simp only [xln_eq] at h
    split at h
    · rename_i e0 he0
      split at h
      · rename_i n r
        split at h
        · rename_i hn
          obtain ⟨c2, s2, hi2, e1, e2⟩ := xe_made_ok h
          obtain ⟨⟨C, h1, h2⟩, hidx⟩ := xa_ok he0
          subst hidx
          have hao : va_AO C s ∧ ∀ cA, va_K D vwCl (xe_ty aC ++ [(cA, .object C)]) s → cA = aC (e0.2 + 1) := by
            obtain ⟨i0, t0⟩ := e0
            match t0, h1 with
            | 0, h1 => cases h1; exact ⟨hK.2.1.1, fun cA z0 => by
                obtain ⟨_, _, _, _, _, f1⟩ := (z0.2 4 _ rfl).2
                obtain ⟨_, _, _, _, _, f2⟩ := (hK.1.2 1 _ rfl).2
                exact Option.some.inj (f1.symm.trans f2)⟩
            | 1, h1 => cases h1; exact ⟨hK.2.1.2.1, fun cA z0 => by
                obtain ⟨_, _, _, _, _, f1⟩ := (z0.2 4 _ rfl).2
                obtain ⟨_, _, _, _, _, f2⟩ := (hK.1.2 2 _ rfl).2
                exact Option.some.inj (f1.symm.trans f2)⟩
            | 2, h1 => cases h1; exact ⟨hK.2.1.2.2, fun cA z0 => by
                obtain ⟨_, _, _, _, _, f1⟩ := (z0.2 4 _ rfl).2
                obtain ⟨_, _, _, _, _, f2⟩ := (hK.1.2 3 _ rfl).2
                exact Option.some.inj (f1.symm.trans f2)⟩
            | _ + 3, h1 => cases h1
          refine va_newq hx hb hown (hts _ h2) hao.1 hK.1 hP xe_ws_D hS hA hn.1 rfl (by omega) (by omega) (by omega) hd (fun q cA H1 z0 z1 z2 z3 => xe_sized fun hz => ?_)
          have hq := xe_newad hsz hz z1 z2
          subst hq
          have ec := hao.2 cA z0
          subst ec
          rw [xe_nulls aC b B xs, xe_ws_app] at z1
          exact ih _ _ _ _ _ _ hi2 H1 locs _ _ ls hl z3 z1 (by rw [List.length_append]; simp; omega) (by omega) (by omega)
        · cases h
      · cases h
    · cases h
  · unfold xd_invokestatic at h
    exact xe_callS_ok hx hb hml hown hts hK hB hRf hRl hmc hms hclen hcall ih hl hS hP hsz hc hs hd h
  · unfold xd_invokespecial at h
    exact xe_callI_ok hx hb hml hown hts hK hB hRf hRl hmc hms hclen0 hcall0 ih hl hS hP hsz hc hs hd h
  · unfold xd_invokevirtual at h
    exact xe_callV_ok hx hb hml hown hts hK hB hRf hRl hmc hms hclen hcall ih hl hS hP hsz hc hs hd h
  · unfold xd_ireturn at h
    exact fin _ rfl hd h
  · unfold xd_lreturn at h
    exact fin _ rfl hd h
  · unfold xd_areturn at h
    exact fin _ rfl hd h
  · unfold xd_return_ at h
    exact fin _ rfl hd h
  · cases h
set_option maxHeartbeats 4000000 in
theorem xe_run_ok {iv : List (Int32 × Int32)} {a6 : Option Int32} {tb : xI} {ini : Bool} {sc : Option (List Value)} (hx : p.tables.exec = Jvm.exec) (hb : c.code = cc) (hml : c.maxLocals = nL) (hown : s.vm.findClass (RO oc) = some m.cls) (hts : ∀ w ∈ xWS, w.before args s = true) (hK : xe_K D aC b B s) (hB : B ≤ s.heap.size) (hRf : d + 1 ≤ R.frames) (hRl : 64 * (d + 1) ≤ R.locals) (hmc : mc ≤ R.cells) (hms : ms ≤ R.slots)
    (hi : xe_in iv xs) (h6 : ∀ v, a6 = some v → xs 0 &&& 63 = v) (htb : xe_ok cc tb = true) (hin : ini = true → meth.name = "<init>") (hsc : ∀ vs, sc = some vs → va_X (b 0) vs.length (fun j => xe_iof (xe_cv b B xs (vs.getD j .null))) s s.heap ∧ b 0 < s.heap.size ∧ b 0 < B)
    (hclen0 : ∀ mn as M o, call0 mn as M = some o → o.2.1.length = M.length + o.2.2.1)
    (hclen : ∀ mn as M o, call mn as M = some o → o.2.1.length = M.length + o.2.2.1)
    (hcall0 : ∀ mn as M o, call0 mn as M = some o → ∀ q, xm mn = some q → Met l q.2.1 (Cond.code q.2.1 q.2.2.1 q.1.2.2.1 q.2.2.2.1 :: xWS) (xe_rm d o.2.2.1 o.2.2.2) (xe_Pc D aC b B xs as M) (xe_Qc D aC b B xs o.1 o.2.1) o.2.2.1 o.2.2.2 (xe_A B))
    (hcall : ∀ mn as M o, call mn as M = some o → ∀ q, xm mn = some q → Met l q.2.1 (Cond.code q.2.1 q.2.2.1 q.1.2.2.1 q.2.2.2.1 :: xWS) (xe_rm d o.2.2.1 o.2.2.2) (xe_Pc D aC b B xs as M) (xe_Qc D aC b B xs o.1 o.2.1) o.2.2.1 o.2.2.2 (xe_A B))
    (hend : ∀ (i : Instr) (pc : Nat) (ls : Array Slot) (H : Heap) (locs : List Loc), xe_isret rt i rF = true → decode cc pc = .ok (i, 1) → va_S (xe_A B) s.heap H locs → va_P D vwCl (xe_ws aC (xe_cv b B xs) B MF) H → W p l e R s m args below meth c H locs mc ms Q (F0 m pc ls (rF.map (xe_cv b B xs)).toList)) :
    ∀ (n pc : Nat) (lv : xL) (st : List Value) (M : xM) (c1 s1 : Nat), xe_run iv a6 sc call0 call tb oc nL rt ini n pc lv st M = some (rF, MF, c1, s1) → ∀ (H : Heap) (locs : List Loc) (cells slots : Nat) (ls : Array Slot), lv_has ls nL (xe_lm b B xs lv) → va_S (xe_A B) s.heap H locs → va_P D vwCl (xe_ws aC (xe_cv b B xs) B M) H → s.heap.size + cells = B + M.length → cells + c1 = mc → slots + s1 = ms → W p l e R s m args below meth c H locs cells slots Q (F0 m pc ls (st.map (xe_cv b B xs))) := by
  intro n
  induction n with
  | zero =>
    intro pc lv st M c1 s1 h
    cases h
  | succ n ih =>
    intro pc lv st M c1 s1 h H locs cells slots ls hl hS hP hsz hc hs
    have h : xe_body iv a6 sc call0 call tb oc nL rt ini (xe_run iv a6 sc call0 call tb oc nL rt ini n) pc lv st M = some (rF, MF, c1, s1) := h
    unfold xe_body at h
    rw [xe_lkF_eq] at h
    split at h
    · cases h
    · rename_i q hq
      obtain ⟨i, len⟩ := q
      have hd := xe_ok_lk htb hq
      split at h
      · rename_i f hf
        exact xe_step1_ok hx hb hown hts hi h6 hd hl hf (fun ls' hl' => ih _ _ _ _ _ _ h H locs cells slots ls' hl' hS hP hsz hc hs)
      · split at h
        · rename_i g hg
          exact xe_step2_ok hx hb hown hts hK hin hsc hS hP hd hg (fun H' locs' e1 e2 hS' hP' => ih _ _ _ _ _ _ h H' locs' cells slots ls (by rw [e1]; exact hl) hS' hP' (by rw [e2]; exact hsz) hc hs)
        · exact xe_step3_ok hx hb hml hown hts hK hB hRf hRl hmc hms hclen0 hclen hcall0 hcall hend ih hl hS hP hsz hc hs hd h
end
end
section
/-! every method keeps what the pure machine says; the law over the pure machine -/
theorem xe_rt1 {t : Option FieldType} (h : xe_rt t = 1) : t = some .int := by
  unfold xe_rt at h
  split at h <;> first | rfl | cases h
theorem xe_rt2 {t : Option FieldType} (h : xe_rt t = 2) : t = some .boolean := by
  unfold xe_rt at h
  split at h <;> first | rfl | cases h
theorem xe_rt3 {t : Option FieldType} (h : xe_rt t = 3) : t = some .long := by
  unfold xe_rt at h
  split at h <;> first | rfl | cases h
theorem xe_rt0 {t : Option FieldType} (h : xe_rt t = 0) : t = none := by
  unfold xe_rt at h
  split at h <;> first | rfl | cases h
theorem xe_rt4 {t : Option FieldType} (h : xe_rt t = 4) : ∃ u, t = some u ∧ ((∃ n, u = .object n) ∨ ∃ v, u = .array v) := by
  unfold xe_rt at h
  split at h
  · cases h
  · cases h
  · cases h
  · cases h
  · exact ⟨_, rfl, Or.inl ⟨_, rfl⟩⟩
  · exact ⟨_, rfl, Or.inr ⟨_, rfl⟩⟩
  · cases h
section
variable {l : Launch} {b : Nat → Nat} {B : Nat} {xs : Nat → Int32} {D : va_G} {aC : Nat → ClassId} {iv : List (Int32 × Int32)} {call0 call : Nat → List Value → xM → Option xO} {d : Nat}
set_option maxHeartbeats 4000000 in
theorem xe_meth (hi : xe_in iv xs) (hclen0 : ∀ mn as M o, call0 mn as M = some o → o.2.1.length = M.length + o.2.2.1) (hclen : ∀ mn as M o, call mn as M = some o → o.2.1.length = M.length + o.2.2.1)
    (hcall0 : ∀ mn as M o, call0 mn as M = some o → ∀ q, xm mn = some q → Met l q.2.1 (Cond.code q.2.1 q.2.2.1 q.1.2.2.1 q.2.2.2.1 :: xWS) (xe_rm d o.2.2.1 o.2.2.2) (xe_Pc D aC b B xs as M) (xe_Qc D aC b B xs o.1 o.2.1) o.2.2.1 o.2.2.2 (xe_A B))
    (hcall : ∀ mn as M o, call mn as M = some o → ∀ q, xm mn = some q → Met l q.2.1 (Cond.code q.2.1 q.2.2.1 q.1.2.2.1 q.2.2.2.1 :: xWS) (xe_rm d o.2.2.1 o.2.2.2) (xe_Pc D aC b B xs as M) (xe_Qc D aC b B xs o.1 o.2.1) o.2.2.1 o.2.2.2 (xe_A B))
    {mn : Nat} {as : List Value} {M : xM} {o : xO} {q : xME} (hq : xm mn = some q) (hle : xe_cats as ≤ q.1.2.2.1) {f : Nat} (h : xe_run iv none none call0 call q.1.1 q.1.2.1 q.1.2.2.1 q.1.2.2.2.1 q.1.2.2.2.2 f 0 (lv_args 0 as) [] M = some o) :
    Met l q.2.1 (Cond.code q.2.1 q.2.2.1 q.1.2.2.1 q.2.2.2.1 :: xWS) (xe_rm (d + 1) o.2.2.1 o.2.2.2) (xe_Pc D aC b B xs as M) (xe_Qc D aC b B xs o.1 o.2.1) o.2.2.1 o.2.2.2 (xe_A B) := by
  obtain ⟨g1, g2, g3, g4, g5, g6, g7, g8, g9⟩ := xm_ok hq
  obtain ⟨rF, MF, c1, s1⟩ := o
  refine Met.ofW (cc := q.2.2.1) (maxL := q.1.2.2.1) (ret := q.2.2.2.1) g4.1 rfl ?_
  intro p e s m args below meth c s₁ Bd hml hv
  obtain ⟨rfl, hsz, hP, hK⟩ := hv
  have hx := Bd.exec
  have hb := Bd.bytes
  have hr := Bd.returns
  have hts0 := atoms_spec (ws := Cond.code q.2.1 q.2.2.1 q.1.2.2.1 q.2.2.2.1 :: xWS) Bd.pre
  have hts : ∀ w ∈ xWS, w.before (as.map (xe_cv b B xs)).toArray s = true := fun w hw => hts0 w (List.mem_cons_of_mem _ hw)
  have hown : s.vm.findClass q.2.1.cls = some m.cls := findClass_of_methodNamed Bd.named
  rw [g5] at hown
  have hlocks := Bd.notSynchronized
  have hnm : q.1.2.2.2.2 = true → meth.name = "<init>" := fun z => ((name_of_methodNamed Bd.named Bd.method).1).trans (g6 z)
  have hl := lv_entry (as.map (xe_cv b B xs)) (n := q.1.2.2.1) (by rw [xe_slen, ← xe_cats_eq]; exact hle)
  rw [xe_args] at hl
  rw [lg_entry_eq]
  refine xe_run_ok (d := d) (mc := c1) (ms := s1) (R := (headSpec (Cond.code q.2.1 q.2.2.1 q.1.2.2.1 q.2.2.2.1 :: xWS) (xe_rm (d + 1) c1 s1)).room) (a6 := none) (sc := none) hx hb hml hown hts hK (by omega) (Nat.le_refl (d + 1)) (Nat.le_refl (64 * (d + 1))) (Nat.le_refl c1) (Nat.le_refl s1) hi (fun _ z => by cases z) g1 hnm (fun _ z => by cases z) hclen0 hclen hcall0 hcall ?_ f 0 _ [] M c1 s1 h s.heap [] 0 0 _ hl va_S.rf hP (by omega) (by omega) (by omega)
  intro i pc ls H locs hret hd hS hP2
  unfold xe_isret at hret
  split at hret
  · rename_i v
    rw [Bool.and_eq_true] at hret
    obtain ⟨x, ex⟩ := xe_isI_ok (b := b) (B := B) (xs := xs) hret.1
    have hq2 : ∀ t : State, t.heap = H → s.WarmedH t.vm → xe_Qc D aC b B xs (some v) MF (as.map (xe_cv b B xs)).toArray s (.returned (some (.int x))) t := fun t ht _ => ⟨⟨by rw [← ex]; rfl, by rw [ht]; exact hP2⟩, hS.F ht⟩
    have eg : ((some v).map (xe_cv b B xs)).toList = [.int x] := by rw [← ex]; rfl
    rw [eg]
    by_cases hone : q.1.2.2.2.1 = 1
    · rw [hone] at g7
      exact W.iret hx hb (hr.trans (xe_rt1 g7)) hq2 hS.2.2 hd
    · have h2 := hret.2
      simp only [Bool.or_eq_true, Bool.and_eq_true, beq_iff_eq, decide_eq_true_eq, hone, false_or] at h2
      rw [h2.1] at g7
      have hn : narrow .boolean (.int x) = .int x := by
        rcases h2.2 with rfl | rfl
        · cases ex; rfl
        · cases ex; rfl
      exact W.zret hx hb (hr.trans (xe_rt2 g7)) hn hq2 hS.2.2 hd
  · rename_i v
    rw [Bool.and_eq_true] at hret
    obtain ⟨x, ex⟩ := xe_isL_ok (b := b) (B := B) (xs := xs) hret.1
    have hq2 : ∀ t : State, t.heap = H → s.WarmedH t.vm → xe_Qc D aC b B xs (some v) MF (as.map (xe_cv b B xs)).toArray s (.returned (some (.long x))) t := fun t ht _ => ⟨⟨by rw [← ex]; rfl, by rw [ht]; exact hP2⟩, hS.F ht⟩
    have eg : ((some v).map (xe_cv b B xs)).toList = [.long x] := by rw [← ex]; rfl
    rw [eg]
    have h2 : q.1.2.2.2.1 = 3 := by simpa using hret.2
    rw [h2] at g7
    exact W.lret hx hb (hr.trans (xe_rt3 g7)) hq2 hS.2.2 hd
  · rename_i a
    have h2 : q.1.2.2.2.1 = 4 := by simpa using hret
    rw [h2] at g7
    obtain ⟨u, eu, hu⟩ := xe_rt4 g7
    exact W.aret (v := .ref (B + a)) hx hb (hr.trans eu) hu (Or.inr ⟨_, rfl⟩) (fun t ht _ => ⟨⟨rfl, by rw [ht]; exact hP2⟩, hS.F ht⟩) hS.2.2 hd
  · have h2 : q.1.2.2.2.1 = 0 := by simpa using hret
    rw [h2] at g7
    exact W.vret hx hb (hr.trans (xe_rt0 g7)) (fun t ht _ => ⟨⟨rfl, by rw [ht]; exact hP2⟩, hS.F ht⟩) hS.2.2 hd
  · cases hret
theorem xe_ex_ok : ∀ (f d mn : Nat) (as : List Value) (M : xM) (o : xO), xe_ex f d mn as M = some o → ∀ q, xm mn = some q → Met l q.2.1 (Cond.code q.2.1 q.2.2.1 q.1.2.2.1 q.2.2.2.1 :: xWS) (xe_rm d o.2.2.1 o.2.2.2) (xe_Pc D aC b B xs as M) (xe_Qc D aC b B xs o.1 o.2.1) o.2.2.1 o.2.2.2 (xe_A B) := by
  intro f d
  induction d with
  | zero =>
    intro mn as M o h
    cases h
  | succ d ih =>
    intro mn as M o h q hq
    have h : (match xmF mn with
      | none => none
      | some q => if xe_cats as ≤ q.1.2.2.1 then xe_run [] none none (xe_ex f d) (xe_ex f d) q.1.1 q.1.2.1 q.1.2.2.1 q.1.2.2.2.1 q.1.2.2.2.2 f 0 (lv_args 0 as) [] M else none) = some o := h
    rw [xmF_eq, hq] at h
    dsimp only at h
    split at h
    · rename_i hle
      exact xe_meth (fun j z hz => by simp at hz) (xe_ex_len f d) (xe_ex_len f d) ih ih hq hle h
    · cases h
end
theorem xe_known {bs : Nat} {s : State} (hts : ∀ w ∈ lw_tbl, w.before #[Value.ref bs] s = true) (hgv : (Jvm.Cond.and given_1 narrow_1).before #[Value.ref bs] s = true) : ∃ (D : va_G) (aC : Nat → ClassId) (b : Nat → Nat), b 0 = bs ∧ xe_K D aC b s.heap.size s := by
  have hts' : ∀ w ∈ xWS, w.before #[Value.ref bs] s = true := fun w hw => hts w (List.mem_filter.mp hw).1
  have h0 : ∀ ci : Nat, ∃ x : ClassId × (Nat → Nat), ∀ q, vwCl[ci]? = some q → u_Kn s q.1 q.2.1 q.2.2 x.1 x.2 := by
    intro ci
    cases hq : vwCl[ci]? with
    | none => exact ⟨(0, fun _ => 0), fun q h => by cases h⟩
    | some q =>
      obtain ⟨C, T, N⟩ := q
      obtain ⟨cC, iS, h⟩ := u_known hts' (xcl_ok ci C T N hq).1 (hts' _ (xin_ok ci C T N hq))
      exact ⟨(cC, iS), fun q h1 => by cases h1; exact h⟩
  obtain ⟨cI, kI, compI, i1, i2, i3⟩ := Cond.arrayClass_spec (hts' _ xai)
  have hcell : va_AO RX0 s := va_AO.of (hts _ xao_Cells)
  have hdeed : va_AO RX2 s := va_AO.of (hts _ xao_Deeds)
  have hpane : va_AO RX7 s := va_AO.of (hts _ xao_Pane)
  have arr : ∀ C, va_AO C s → ∃ cA, ArrOfT s cA (.object C) ∧ va_RA s cA (.object C) := by
    intro C h
    obtain ⟨comp, cA, kA, f1, f2, f3, f4, f5⟩ := Cond.arrayOver_spec h
    exact ⟨cA, fun N z => ⟨(fun k h => by cases h), kA, f3, comp, f4⟩, kA, comp, f3, f4, f1, f5⟩
  obtain ⟨c1, a1, r1⟩ := arr _ hcell
  obtain ⟨c2, a2, r2⟩ := arr _ hdeed
  obtain ⟨c3, a3, r3⟩ := arr _ hpane
  have hs := flat_of_before _ hgv
  have hout : ∀ a : Nat, a < s.heap.size → ¬ xe_A s.heap.size a := fun a h z => absurd h (Nat.not_lt.mpr z)
  have hlen := va_eqt (hs (Cond.eq (.length (.static "LimpMirror" "KIND_LETTERS" "[I")) (.int 6)) (by decide +kernel))
  obtain ⟨t, ht, hT⟩ := va_Tof (tm := .static "LimpMirror" "KIND_LETTERS" "[I") (ty := .int) (N := 6) (f := fun j => xLet.getD j .null) (A := xe_A s.heap.size) (by decide) (hs _ (by decide +kernel)) hlen (fun j hj => match j, hj with
    | 0, _ => va_eqt (z := 103) (hs _ (by decide +kernel))
    | 1, _ => va_eqt (z := 108) (hs _ (by decide +kernel))
    | 2, _ => va_eqt (z := 116) (hs _ (by decide +kernel))
    | 3, _ => va_eqt (z := 111) (hs _ (by decide +kernel))
    | 4, _ => va_eqt (z := 105) (hs _ (by decide +kernel))
    | 5, _ => va_eqt (z := 102) (hs _ (by decide +kernel))
    | _ + 6, hj => absurd hj (by omega)) hout
  have hZ := va_Zof (A := xe_A s.heap.size) (hts _ xls) (hts' _ xini) ht hout
  refine ⟨(fun ci => (Classical.choose (h0 ci)).1, fun ci => (Classical.choose (h0 ci)).2), fun k => match k with
    | 0 => cI
    | 1 => c1
    | 2 => c2
    | _ => c3, fun n => if n = 0 then bs else t, rfl, ⟨fun ci q hq => Classical.choose_spec (h0 ci) q hq, ?_⟩, ⟨hcell, hdeed, hpane⟩, fun w hw => ?_, hZ, hT⟩
  · intro k q hk
    match k, hk with
    | 0, hk => cases hk; exact ⟨fun N z => ⟨(fun k h => by cases h), kI, i2, compI, i3⟩, i1⟩
    | 1, hk => cases hk; exact ⟨a1, r1⟩
    | 2, hk => cases hk; exact ⟨a2, r2⟩
    | 3, hk => cases hk; exact ⟨a3, r3⟩
    | _ + 4, hk => cases hk
  · have h4 := hts w (xnw_in w hw)
    refine va_Nw.of ?_ h4
    unfold xnw at hw
    simp only [List.mem_cons, List.not_mem_nil, or_false] at hw
    rcases hw with rfl | rfl | rfl | rfl | rfl | rfl | rfl | rfl | rfl | rfl | rfl | rfl | rfl
    all_goals rfl
end
section
/-! big steps of the pure machine: xS from a place of a method's body, xT a whole call; with all larger fuels, and all depths from k on -/
abbrev xQ : Type := xI × Nat × Nat × Nat × Bool
def xS0 (q : xQ) (k pc : Nat) (lv : xL) (st : List Value) (M : xM) (r : Option Value) (M' : xM) : Prop := ∃ n0 f0 : Nat, ∀ n f d : Nat, n0 ≤ n → f0 ≤ f → k ≤ d → xe_run [] none none (xe_ex f d) (xe_ex f d) q.1 q.2.1 q.2.2.1 q.2.2.2.1 q.2.2.2.2 n pc lv st M = some (r, M', 0, 0)
def xT0 (k mn : Nat) (as : List Value) (M : xM) (r : Option Value) (M' : xM) : Prop := ∃ f0 : Nat, ∀ f d : Nat, f0 ≤ f → k ≤ d → xe_ex f d mn as M = some (r, M', 0, 0)
section
variable {q : xQ} {k pc l mn idx : Nat} {lv : xL} {st rest : List Value} {M M1 M' : xM} {r v : Option Value} {i : Instr} {as : List Value}
theorem xT0.up {j : Nat} (h : xT0 k mn as M r M') (hj : k ≤ j) : xT0 j mn as M r M' := by
  obtain ⟨f0, h⟩ := h
  exact ⟨f0, fun f d h1 h2 => h f d h1 (Nat.le_trans hj h2)⟩
theorem xS0.up {j : Nat} (h : xS0 q k pc lv st M r M') (hj : k ≤ j) : xS0 q j pc lv st M r M' := by
  obtain ⟨n0, f0, h⟩ := h
  exact ⟨n0, f0, fun n f d h0 h1 h2 => h n f d h0 h1 (Nat.le_trans hj h2)⟩
/-- a call, out of the walk of its body -/
theorem xT0.of {Q : xME} (hq : xmF mn = some Q) (hc : xe_cats as ≤ Q.1.2.2.1) (h : xS0 Q.1 k 0 (lv_args 0 as) [] M r M')   : xT0 (k + 1) mn as M r M' := by
  obtain ⟨n0, f0, h⟩ := h
  refine ⟨n0 + f0, fun f d h1 h2 => ?_⟩
  obtain ⟨d, rfl⟩ : ∃ d', d = d' + 1 := ⟨d - 1, by omega⟩
  show (match xmF mn with
    | none => none
    | some q => if xe_cats as ≤ q.1.2.2.1 then xe_run [] none none (xe_ex f d) (xe_ex f d) q.1.1 q.1.2.1 q.1.2.2.1 q.1.2.2.2.1 q.1.2.2.2.2 f 0 (lv_args 0 as) [] M else none) = _
  rw [hq]
  dsimp only
  rw [if_pos hc]
  exact h f f d (by omega) (by omega) (by omega)
theorem xS0.body (h : ∃ n0 f0 : Nat, ∀ n f d : Nat, n0 ≤ n → f0 ≤ f → k ≤ d → xe_body [] none none (xe_ex f d) (xe_ex f d) q.1 q.2.1 q.2.2.1 q.2.2.2.1 q.2.2.2.2 (xe_run [] none none (xe_ex f d) (xe_ex f d) q.1 q.2.1 q.2.2.1 q.2.2.2.1 q.2.2.2.2 n) pc lv st M = some (r, M', 0, 0)) : xS0 q k pc lv st M r M' := by
  obtain ⟨n0, f0, h⟩ := h
  refine ⟨n0 + 1, f0, fun n f d h0 h1 h2 => ?_⟩
  obtain ⟨n, rfl⟩ : ∃ n', n = n' + 1 := ⟨n - 1, by omega⟩
  exact h n f d (by omega) h1 h2
/-- an instruction that touches neither cells nor methods -/
theorem xS0.s1 {f : xF} (hl : xe_lkF q.1 pc = some (i, l)) (hs : xe_step1 [] none q.2.1 q.2.2.1 i pc lv st = some f) (h : xS0 q k f.1 f.2.1 f.2.2 M r M') : xS0 q k pc lv st M r M' := by
  obtain ⟨n0, f0, h⟩ := h
  refine xS0.body ⟨n0, f0, fun n f d h0 h1 h2 => ?_⟩
  unfold xe_body
  rw [hl]
  dsimp only
  rw [hs]
  exact h n f d h0 h1 h2
/-- one that reads or writes cells -/
theorem xS0.s2 {g : xF × xM} (hl : xe_lkF q.1 pc = some (i, l)) (h1 : xe_step1 [] none q.2.1 q.2.2.1 i pc lv st = none) (hs : xe_step2 none q.2.1 q.2.2.2.2 i pc lv st M = some g) (h : xS0 q k g.1.1 g.1.2.1 g.1.2.2 g.2 r M') : xS0 q k pc lv st M r M' := by
  obtain ⟨n0, f0, h⟩ := h
  refine xS0.body ⟨n0, f0, fun n f d z0 z1 z2 => ?_⟩
  unfold xe_body
  rw [hl]
  dsimp only
  rw [h1]
  dsimp only
  rw [hs]
  exact h n f d z0 z1 z2
/-- an end -/
theorem xS0.ret (hl : xe_lkF q.1 pc = some (i, l)) (h1 : xe_step1 [] none q.2.1 q.2.2.1 i pc lv st = none) (h2 : xe_step2 none q.2.1 q.2.2.2.2 i pc lv st M = none) (h3 : ∀ (c : Nat → List Value → xM → Option xO) (ih : Nat → xL → List Value → xM → Option xO), xe_step3 c c q.2.1 q.2.2.2.1 i pc lv st M ih = some (r, M', 0, 0)) : xS0 q k pc lv st M r M' := by
  refine xS0.body ⟨0, 0, fun n f d z0 z1 z2 => ?_⟩
  unfold xe_body
  rw [hl]
  dsimp only
  rw [h1]
  dsimp only
  rw [h2]
  exact h3 _ _
/-- a call -/
theorem xS0.call (hl : xe_lkF q.1 pc = some (i, l)) (h1 : xe_step1 [] none q.2.1 q.2.2.1 i pc lv st = none) (h2 : xe_step2 none q.2.1 q.2.2.2.2 i pc lv st M = none) (h3 : ∀ (c : Nat → List Value → xM → Option xO) (ih : Nat → xL → List Value → xM → Option xO), xe_step3 c c q.2.1 q.2.2.2.1 i pc lv st M ih = xe_cont ih pc lv rest (c mn as M)) (hT : xT0 k mn as M v M1) (h : xS0 q k (pc + 3) lv (v.toList ++ rest) M1 r M') : xS0 q k pc lv st M r M' := by
  obtain ⟨n0, f0, h⟩ := h
  obtain ⟨f1, hT⟩ := hT
  refine xS0.body ⟨n0, f0 + f1, fun n f d z0 z1 z2 => ?_⟩
  unfold xe_body
  rw [hl]
  dsimp only
  rw [h1]
  dsimp only
  rw [h2]
  dsimp only
  rw [h3, hT f d (by omega) z2]
  unfold xe_cont
  dsimp only
  rw [h n f d z0 (by omega) z2]
  show some (r, M', 0 + 0, 0 + 0) = _
  rfl
/-- Math.max, Math.min, a copy: as a step -/
theorem xS0.s3 {pc' : Nat} {st' : List Value} (hl : xe_lkF q.1 pc = some (i, l)) (h1 : xe_step1 [] none q.2.1 q.2.2.1 i pc lv st = none) (h2 : xe_step2 none q.2.1 q.2.2.2.2 i pc lv st M = none) (h3 : ∀ (c : Nat → List Value → xM → Option xO) (ih : Nat → xL → List Value → xM → Option xO), xe_step3 c c q.2.1 q.2.2.2.1 i pc lv st M ih = ih pc' lv st' M1) (h : xS0 q k pc' lv st' M1 r M') : xS0 q k pc lv st M r M' := by
  obtain ⟨n0, f0, h⟩ := h
  refine xS0.body ⟨n0, f0, fun n f d z0 z1 z2 => ?_⟩
  unfold xe_body
  rw [hl]
  dsimp only
  rw [h1]
  dsimp only
  rw [h2]
  dsimp only
  rw [h3]
  exact h n f d z0 z1 z2
end
/-! the same with a word on what comes out: P of the answer and of the cells -/
def xS (q : xQ) (k pc : Nat) (lv : xL) (st : List Value) (M : xM) (P : Option Value → xM → Prop) : Prop := ∃ r M', P r M' ∧ xS0 q k pc lv st M r M'
def xT (k mn : Nat) (as : List Value) (M : xM) (P : Option Value → xM → Prop) : Prop := ∃ r M', P r M' ∧ xT0 k mn as M r M'
section
variable {q : xQ} {k pc l mn idx : Nat} {lv : xL} {st rest : List Value} {M M1 : xM} {i : Instr} {as : List Value} {P P' : Option Value → xM → Prop}
theorem xT.up {j : Nat} (h : xT k mn as M P) (hj : k ≤ j) : xT j mn as M P := by
  obtain ⟨r, M', hP, h⟩ := h
  exact ⟨r, M', hP, h.up hj⟩
theorem xT.weak (h : xT k mn as M P) (hP : ∀ r M', P r M' → P' r M') : xT k mn as M P' := by
  obtain ⟨r, M', h1, h⟩ := h
  exact ⟨r, M', hP _ _ h1, h⟩
theorem xS.weak (h : xS q k pc lv st M P) (hP : ∀ r M', P r M' → P' r M') : xS q k pc lv st M P' := by
  obtain ⟨r, M', h1, h⟩ := h
  exact ⟨r, M', hP _ _ h1, h⟩
theorem xT.of {Q : xME} (hq : xmF mn = some Q) (hc : xe_cats as ≤ Q.1.2.2.1) (h : xS Q.1 k 0 (lv_args 0 as) [] M P) : xT (k + 1) mn as M P := by
  obtain ⟨r, M', hP, h⟩ := h
  exact ⟨r, M', hP, xT0.of hq hc h⟩
theorem xS.s1 {f : xF} (hl : xe_lkF q.1 pc = some (i, l)) (hs : xe_step1 [] none q.2.1 q.2.2.1 i pc lv st = some f) (h : xS q k f.1 f.2.1 f.2.2 M P) : xS q k pc lv st M P := by
  obtain ⟨r, M', hP, h⟩ := h
  exact ⟨r, M', hP, xS0.s1 hl hs h⟩
theorem xS.s2 {g : xF × xM} (hl : xe_lkF q.1 pc = some (i, l)) (h1 : xe_step1 [] none q.2.1 q.2.2.1 i pc lv st = none) (hs : xe_step2 none q.2.1 q.2.2.2.2 i pc lv st M = some g) (h : xS q k g.1.1 g.1.2.1 g.1.2.2 g.2 P) : xS q k pc lv st M P := by
  obtain ⟨r, M', hP, h⟩ := h
  exact ⟨r, M', hP, xS0.s2 hl h1 hs h⟩
theorem xS.ret {r : Option Value} {M' : xM} (hl : xe_lkF q.1 pc = some (i, l)) (h1 : xe_step1 [] none q.2.1 q.2.2.1 i pc lv st = none) (h2 : xe_step2 none q.2.1 q.2.2.2.2 i pc lv st M = none) (h3 : ∀ (c : Nat → List Value → xM → Option xO) (ih : Nat → xL → List Value → xM → Option xO), xe_step3 c c q.2.1 q.2.2.2.1 i pc lv st M ih = some (r, M', 0, 0)) (hP : P r M') : xS q k pc lv st M P := ⟨r, M', hP, xS0.ret hl h1 h2 h3⟩
theorem xS.call {P1 : Option Value → xM → Prop} (hl : xe_lkF q.1 pc = some (i, l)) (h1 : xe_step1 [] none q.2.1 q.2.2.1 i pc lv st = none) (h2 : xe_step2 none q.2.1 q.2.2.2.2 i pc lv st M = none) (h3 : ∀ (c : Nat → List Value → xM → Option xO) (ih : Nat → xL → List Value → xM → Option xO), xe_step3 c c q.2.1 q.2.2.2.1 i pc lv st M ih = xe_cont ih pc lv rest (c mn as M)) (hT : xT k mn as M P1) (h : ∀ v M1, P1 v M1 → xS q k (pc + 3) lv (v.toList ++ rest) M1 P) : xS q k pc lv st M P := by
  obtain ⟨v, M1, hP1, hT⟩ := hT
  obtain ⟨r, M', hP, h⟩ := h v M1 hP1
  exact ⟨r, M', hP, xS0.call hl h1 h2 h3 hT h⟩
theorem xS.s3 {pc' : Nat} {st' : List Value} (hl : xe_lkF q.1 pc = some (i, l)) (h1 : xe_step1 [] none q.2.1 q.2.2.1 i pc lv st = none) (h2 : xe_step2 none q.2.1 q.2.2.2.2 i pc lv st M = none) (h3 : ∀ (c : Nat → List Value → xM → Option xO) (ih : Nat → xL → List Value → xM → Option xO), xe_step3 c c q.2.1 q.2.2.2.1 i pc lv st M ih = ih pc' lv st' M1) (h : xS q k pc' lv st' M1 P) : xS q k pc lv st M P := by
  obtain ⟨r, M', hP, h⟩ := h
  exact ⟨r, M', hP, xS0.s3 hl h1 h2 h3 h⟩
/-- a comparison of two ints -/
theorem xS.br {c : ClassFile.Cond} {off : Int} {t : Nat} {a b : Int32} (hl : xe_lkF q.1 pc = some (.if_icmp c off, l)) (ht : xe_tg pc off = some t) (hy : xe_holds c a b = true → xS q k t lv rest M P) (hn : xe_holds c a b = false → xS q k (pc + 3) lv rest M P) : xS q k pc lv (.int b :: .int a :: rest) M P := by
  have key : ∀ x, xe_holds c a b = x → xe_step1 [] none q.2.1 q.2.2.1 (.if_icmp c off) pc lv (.int b :: .int a :: rest) = some (bif x then t else pc + 3, lv, rest) := by
    intro x hx
    show xe_br [] c off pc lv (.int a) (.int b) rest = _
    unfold xe_br
    rw [ht]
    dsimp only
    have e : xe_cmpF [] c (.int a) (.int b) = some x := by
      rw [xe_cmpF_eq, ← hx]
      cases c
      · rfl
      · show some (!(decide (a = b))) = some (decide (¬ a = b)); by_cases z : a = b <;> simp [z]
      · rfl
      · show some (!(decide (a < b))) = some (decide (b ≤ a)); by_cases z : a < b <;> simp [z, Int32.not_lt.mp, Int32.not_le.mpr]
      · rfl
      · show some (!(decide (b < a))) = some (decide (a ≤ b)); by_cases z : b < a <;> simp [z, Int32.not_lt.mp, Int32.not_le.mpr]
    rw [e]
  cases hx : xe_holds c a b with
  | true => exact xS.s1 hl (key true hx) (hy hx)
  | false => exact xS.s1 hl (key false hx) (hn hx)
theorem xS.br0 {c : ClassFile.Cond} {off : Int} {t : Nat} {a : Int32} (hl : xe_lkF q.1 pc = some (.ifCond c off, l)) (ht : xe_tg pc off = some t) (hy : xe_holds c a 0 = true → xS q k t lv rest M P) (hn : xe_holds c a 0 = false → xS q k (pc + 3) lv rest M P) : xS q k pc lv (.int a :: rest) M P := by
  have key : ∀ x, xe_holds c a 0 = x → xe_step1 [] none q.2.1 q.2.2.1 (.ifCond c off) pc lv (.int a :: rest) = some (bif x then t else pc + 3, lv, rest) := by
    intro x hx
    show xe_br [] c off pc lv (.int a) (.int 0) rest = _
    unfold xe_br
    rw [ht]
    dsimp only
    have e : xe_cmpF [] c (.int a) (.int 0) = some x := by
      rw [xe_cmpF_eq, ← hx]
      cases c
      · rfl
      · show some (!(decide (a = 0))) = some (decide (¬ a = 0)); by_cases z : a = 0 <;> simp [z]
      · rfl
      · show some (!(decide (a < 0))) = some (decide (0 ≤ a)); by_cases z : a < 0 <;> simp [z, Int32.not_lt.mp, Int32.not_le.mpr]
      · rfl
      · show some (!(decide (0 < a))) = some (decide (a ≤ 0)); by_cases z : 0 < a <;> simp [z, Int32.not_lt.mp, Int32.not_le.mpr]
    rw [e]
  cases hx : xe_holds c a 0 with
  | true => exact xS.s1 hl (key true hx) (hy hx)
  | false => exact xS.s1 hl (key false hx) (hn hx)
end
end
section
/-! cells in big steps: an object (a, (kind, fields)), a row of ints (a, (12, numbers)), a row of references -/
abbrev xIs (vs : List Int32) : List Value := vs.map Value.int
theorem xIs_get (vs : List Int32) (n : Nat) : (xIs vs)[n]? = (vs[n]?).map Value.int := List.getElem?_map ..
theorem xIs_set (vs : List Int32) (n : Nat) (x : Int32) : (xIs vs).set n (.int x) = xIs (vs.set n x) := (List.map_set ..).symm
section
variable {q : xQ} {k pc l idx a ci : Nat} {lv : xL} {st rest : List Value} {M M1 : xM} {P : Option Value → xM → Prop} {fs vs : List Value} {e : xFE} {v : Value} {j x : Int32} {ns : List Int32}
theorem xS.get (hl : xe_lkF q.1 pc = some (.getfield idx, l)) (hM : M[a]? = some (ci, fs)) (he : xfF q.2.1 idx = some e) (hc : ci < 12 ∧ e.2.2.2.2.contains ci = true) (hv : fs[e.2.1]? = some v) (h : xS q k (pc + 3) lv (v :: rest) M P) : xS q k pc lv (.ref a :: rest) M P := by
  refine xS.s2 hl rfl (g := ((pc + 3, lv, v :: rest), M)) ?_ h
  show xb_getfield idx q.2.1 pc lv (.ref a :: rest) M = _
  unfold xb_getfield
  simp only [xg_eq, hM, he, if_pos hc, hv]
theorem xS.put (hl : xe_lkF q.1 pc = some (.putfield idx, l)) (hM : M[a]? = some (ci, fs)) (he : xfF q.2.1 idx = some e) (hc : (ci < 12 ∧ e.2.2.2.2.contains ci = true) ∧ (xe_vtag v = e.2.2.1 ∧ (e.2.2.2.1 = true → q.2.2.2.2 = true) ∧ e.2.2.1 < 3) ∧ e.2.1 < fs.length) (h : xS q k (pc + 3) lv rest (M.set a (ci, fs.set e.2.1 v)) P) : xS q k pc lv (v :: .ref a :: rest) M P := by
  refine xS.s2 hl rfl (g := ((pc + 3, lv, rest), M.set a (ci, fs.set e.2.1 v))) ?_ h
  show xb_putfield idx q.2.1 q.2.2.2.2 pc lv (v :: .ref a :: rest) M = _
  unfold xb_putfield
  simp only [xg_eq, xse_eq, xln_eq, hM, he, if_pos hc]
theorem xS.iald (hl : xe_lkF q.1 pc = some (.iaload, l)) (hM : M[a]? = some (12, xIs ns)) (hj : ¬ j < 0) (hv : ns[j.toNatClampNeg]? = some x) (h : xS q k (pc + 1) lv (.int x :: rest) M P) : xS q k pc lv (.int j :: .ref a :: rest) M P := by
  refine xS.s2 hl rfl (g := ((pc + 1, lv, .int x :: rest), M)) ?_ h
  show xb_iaload none pc lv (.int j :: .ref a :: rest) M = _
  unfold xb_iaload
  have h2 : ¬ xlt j 0 = true := by rw [xlt_iff]; exact hj
  have h3 : (xIs ns)[j.toNatClampNeg]? = some (.int x) := by rw [xIs_get, hv]; rfl
  simp only [xg_eq, hM, h2, h3, true_and, not_false_eq_true, if_true]
  rfl
theorem xS.iast (hl : xe_lkF q.1 pc = some (.iastore, l)) (hM : M[a]? = some (12, xIs ns)) (hj : ¬ j < 0) (hv : j.toNatClampNeg < ns.length) (h : xS q k (pc + 1) lv rest (M.set a (12, xIs (ns.set j.toNatClampNeg x))) P) : xS q k pc lv (.int x :: .int j :: .ref a :: rest) M P := by
  rw [← xIs_set] at h
  refine xS.s2 hl rfl (g := ((pc + 1, lv, rest), M.set a (12, (xIs ns).set j.toNatClampNeg (.int x)))) ?_ h
  show xb_iastore pc lv (.int x :: .int j :: .ref a :: rest) M = _
  unfold xb_iastore
  have h2 : ¬ xlt j 0 = true := by rw [xlt_iff]; exact hj
  have h3 : j.toNatClampNeg < (xIs ns).length := by rw [List.length_map]; exact hv
  simp only [xg_eq, xse_eq, xln_eq, hM, h2, h3, true_and, and_true, not_false_eq_true]
  rfl
theorem xS.aald (hl : xe_lkF q.1 pc = some (.aaload, l)) (hM : M[a]? = some (ci, vs)) (hci : 12 < ci ∧ ci < 16) (hj : ¬ j < 0) (hv : vs[j.toNatClampNeg]? = some v) (hN : xe_isN v = true) (h : xS q k (pc + 1) lv (v :: rest) M P) : xS q k pc lv (.int j :: .ref a :: rest) M P := by
  refine xS.s2 hl rfl (g := ((pc + 1, lv, v :: rest), M)) ?_ h
  show xb_aaload pc lv (.int j :: .ref a :: rest) M = _
  unfold xb_aaload
  have h2 : ¬ xlt j 0 = true := by rw [xlt_iff]; exact hj
  simp only [xg_eq, hM, h2, hci, hv, hN, true_and, and_self, not_false_eq_true, if_true]
  rfl
theorem xS.alen (hl : xe_lkF q.1 pc = some (.arraylength, l)) (hM : M[a]? = some (ci, vs)) (hci : 12 ≤ ci ∧ ci < 16) (h : xS q k (pc + 1) lv (.int (Int32.ofNat vs.length) :: rest) M P) : xS q k pc lv (.ref a :: rest) M P := by
  refine xS.s2 hl rfl (g := ((pc + 1, lv, .int (Int32.ofNat vs.length) :: rest), M)) ?_ h
  show xb_arraylength none pc lv (.ref a :: rest) M = _
  unfold xb_arraylength
  simp only [xg_eq, xln_eq, hM, if_pos hci]
/-- a virtual call -/
theorem xS.callV {n : Nat} {rs : List (Nat × Nat)} {idx' : Nat} {e : Nat × Nat} {Q : xME} {P1 : Option Value → xM → Prop} (hl : xe_lkF q.1 pc = some (.invokevirtual idx, l)) (hx : xcF q.2.1 idx = some (idx', 3, n, rs)) (hd : st.drop n = .ref a :: rest) (hM : M[a]? = some (ci, fs)) (hr : xfd rs ci = some e) (hm : xmF e.2 = some Q) (hn : ci < 12 ∧ Q.2.2.2.2 = n ∧ xe_sum rest = true) (hT : xT k e.2 (.ref a :: (st.take n).reverse) M P1) (h : ∀ v M1, P1 v M1 → xS q k (pc + 3) lv (v.toList ++ rest) M1 P) : xS q k pc lv st M P := by
  refine xS.call hl rfl rfl (fun c ih => ?_) hT h
  show xe_callV c q.2.1 idx pc lv st M ih = _
  unfold xe_callV
  simp only [hx, hd, xg_eq, hM, hr, hm, if_pos hn]
/-- a static call -/
theorem xS.callS {mn : Nat} {rs : List (Nat × Nat)} {idx' : Nat} {Q : xME} {P1 : Option Value → xM → Prop} (hl : xe_lkF q.1 pc = some (.invokestatic idx, l)) (hx : xcF q.2.1 idx = some (idx', 0, mn, rs)) (hm : xmF mn = some Q) (hn : Q.2.2.2.2 ≤ st.length ∧ xe_sum (st.drop Q.2.2.2.2) = true) (hT : xT k mn (st.take Q.2.2.2.2).reverse M P1) (h : ∀ v M1, P1 v M1 → xS q k (pc + 3) lv (v.toList ++ st.drop Q.2.2.2.2) M1 P) : xS q k pc lv st M P := by
  refine xS.call hl rfl rfl (fun c ih => ?_) hT h
  show xe_callS c q.2.1 idx pc lv st M ih = _
  unfold xe_callS
  simp only [hx, hm, if_pos hn]
end
end
section
/-! constants as they are read -/
theorem xj_m9 : (Int8.ofInt (-9)).toInt32 = (-9 : Int32) := rfl
theorem xj_m4 : (Int8.ofInt (-4)).toInt32 = (-4 : Int32) := rfl
theorem xj_m3 : (Int8.ofInt (-3)).toInt32 = (-3 : Int32) := rfl
theorem xj_m2 : (Int8.ofInt (-2)).toInt32 = (-2 : Int32) := rfl
theorem xj_6 : (Int8.ofInt 6).toInt32 = (6 : Int32) := rfl
theorem xj_8 : (Int8.ofInt 8).toInt32 = (8 : Int32) := rfl
theorem xj_9 : (Int8.ofInt 9).toInt32 = (9 : Int32) := rfl
theorem xj_11 : (Int8.ofInt 11).toInt32 = (11 : Int32) := rfl
theorem xj_12 : (Int8.ofInt 12).toInt32 = (12 : Int32) := rfl
theorem xj_13 : (Int8.ofInt 13).toInt32 = (13 : Int32) := rfl
theorem xj_16 : (Int8.ofInt 16).toInt32 = (16 : Int32) := rfl
theorem xj_20 : (Int8.ofInt 20).toInt32 = (20 : Int32) := rfl
theorem xj_24 : (Int8.ofInt 24).toInt32 = (24 : Int32) := rfl
theorem xj_25 : (Int8.ofInt 25).toInt32 = (25 : Int32) := rfl
theorem xj_30 : (Int8.ofInt 30).toInt32 = (30 : Int32) := rfl
theorem xj_32 : (Int8.ofInt 32).toInt32 = (32 : Int32) := rfl
theorem xj_40 : (Int8.ofInt 40).toInt32 = (40 : Int32) := rfl
theorem xj_48 : (Int8.ofInt 48).toInt32 = (48 : Int32) := rfl
theorem xj_60 : (Int8.ofInt 60).toInt32 = (60 : Int32) := rfl
theorem xj_63 : (Int8.ofInt 63).toInt32 = (63 : Int32) := rfl
theorem xj_99 : (Int8.ofInt 99).toInt32 = (99 : Int32) := rfl
theorem xj_100 : (Int8.ofInt 100).toInt32 = (100 : Int32) := rfl
theorem xj_102 : (Int8.ofInt 102).toInt32 = (102 : Int32) := rfl
theorem xj_103 : (Int8.ofInt 103).toInt32 = (103 : Int32) := rfl
theorem xj_104 : (Int8.ofInt 104).toInt32 = (104 : Int32) := rfl
theorem xj_105 : (Int8.ofInt 105).toInt32 = (105 : Int32) := rfl
theorem xj_108 : (Int8.ofInt 108).toInt32 = (108 : Int32) := rfl
theorem xj_110 : (Int8.ofInt 110).toInt32 = (110 : Int32) := rfl
theorem xj_111 : (Int8.ofInt 111).toInt32 = (111 : Int32) := rfl
theorem xj_116 : (Int8.ofInt 116).toInt32 = (116 : Int32) := rfl
theorem xj_120 : (Int8.ofInt 120).toInt32 = (120 : Int32) := rfl
theorem xi_m1 : Int32.ofInt (-1) = (-1 : Int32) := rfl
theorem xi_0 : Int32.ofInt 0 = (0 : Int32) := rfl
theorem xi_1 : Int32.ofInt 1 = (1 : Int32) := rfl
theorem xi_2 : Int32.ofInt 2 = (2 : Int32) := rfl
theorem xi_3 : Int32.ofInt 3 = (3 : Int32) := rfl
theorem xi_4 : Int32.ofInt 4 = (4 : Int32) := rfl
theorem xi_5 : Int32.ofInt 5 = (5 : Int32) := rfl
theorem xi_6 : Int32.ofInt 6 = (6 : Int32) := rfl
theorem xk_m1000 : (Int16.ofInt (-1000)).toInt32 = (-1000 : Int32) := rfl
theorem xk_160 : (Int16.ofInt 160).toInt32 = (160 : Int32) := rfl
theorem xk_240 : (Int16.ofInt 240).toInt32 = (240 : Int32) := rfl
theorem xk_1000 : (Int16.ofInt 1000).toInt32 = (1000 : Int32) := rfl
end
section
/-! more calls: of the superclass, of a nest mate's static, of an inherited static -/
section
variable {q : xQ} {k pc l idx a ci : Nat} {lv : xL} {st rest : List Value} {M : xM} {P P1 : Option Value → xM → Prop} {fs : List Value}
theorem xS.callSup {mn : Nat} {rs : List (Nat × Nat)} {idx' : Nat} {Q : xME} (hl : xe_lkF q.1 pc = some (.invokespecial idx, l)) (hx : xcF q.2.1 idx = some (idx', 9, mn, rs)) (hm : xmF mn = some Q) (hd : st.drop Q.2.2.2.2 = .ref a :: rest) (hM : M[a]? = some (ci, fs)) (hn : ci < 12 ∧ xe_sum rest = true) (hT : xT k mn (.ref a :: (st.take Q.2.2.2.2).reverse) M P1) (h : ∀ v M1, P1 v M1 → xS q k (pc + 3) lv (v.toList ++ rest) M1 P) : xS q k pc lv st M P := by
  refine xS.call hl rfl rfl (fun c ih => ?_) hT h
  show xe_callI c q.2.1 idx pc lv st M ih = _
  unfold xe_callI
  simp only [hx, hm, hd, xg_eq, hM, if_pos hn]
theorem xS.callN {mn : Nat} {rs : List (Nat × Nat)} {idx' : Nat} {Q : xME} (hl : xe_lkF q.1 pc = some (.invokestatic idx, l)) (hx : xcF q.2.1 idx = some (idx', 7, mn, rs)) (hm : xmF mn = some Q) (hn : Q.2.2.2.2 ≤ st.length ∧ xe_sum (st.drop Q.2.2.2.2) = true) (hT : xT k mn (st.take Q.2.2.2.2).reverse M P1) (h : ∀ v M1, P1 v M1 → xS q k (pc + 3) lv (v.toList ++ st.drop Q.2.2.2.2) M1 P) : xS q k pc lv st M P := by
  refine xS.call hl rfl rfl (fun c ih => ?_) hT h
  show xe_callS c q.2.1 idx pc lv st M ih = _
  unfold xe_callS
  simp only [hx, hm, if_pos hn]
theorem xS.callO {mn : Nat} {rs : List (Nat × Nat)} {idx' : Nat} {Q : xME} (hl : xe_lkF q.1 pc = some (.invokestatic idx, l)) (hx : xcF q.2.1 idx = some (idx', 10, mn, rs)) (hm : xmF mn = some Q) (hn : Q.2.2.2.2 ≤ st.length ∧ xe_sum (st.drop Q.2.2.2.2) = true) (hT : xT k mn (st.take Q.2.2.2.2).reverse M P1) (h : ∀ v M1, P1 v M1 → xS q k (pc + 3) lv (v.toList ++ st.drop Q.2.2.2.2) M1 P) : xS q k pc lv st M P := by
  refine xS.call hl rfl rfl (fun c ih => ?_) hT h
  show xe_callS c q.2.1 idx pc lv st M ih = _
  unfold xe_callS
  simp only [hx, hm, if_pos hn]
end
end
section
/-! LimpMirror$Cells: get, set -/
theorem xix {i : Int32} {n : Nat} (h0 : 0 ≤ i) (h : i < Int32.ofNat n) (hn : n < 2 ^ 31) : i.toNatClampNeg < n := by
  obtain ⟨j, hj, rfl⟩ := nI_of (x := i) (Int32.not_lt.mpr h0)
  rw [nI_clamp hj]
  exact (nI_ltI hj hn).mp h
theorem xif0 {p : Prop} [Decidable p] (h : (if p then (1 : Int32) else 0) = 0) : ¬ p := fun hp => by
  rw [if_pos hp] at h
  exact absurd h (by decide)
theorem xif1 {p : Prop} [Decidable p] (h : ¬ (if p then (1 : Int32) else 0) = 0) : p := by
  by_cases hp : p
  · exact hp
  · rw [if_neg hp] at h
    exact absurd rfl h
end
section
/-! more locals, or the same in another order, do no harm -/
def xx (lv lv' : xL) : Prop := (∀ q ∈ lv, q ∈ lv') ∧ (lv'.map Prod.fst).Nodup
theorem xx_ld {lv lv' : xL} {i : Nat} {v : Value} (he : xx lv lv') (h : xe_ld lv i = some v) : xe_ld lv' i = some v := by
  have h1 := he.1 _ (xe_ld_mem h)
  unfold xe_ld
  rw [xfd_eq]
  have h2 := he.2
  clear h he
  induction lv' with
  | nil => cases h1
  | cons q t ih =>
    rw [List.map_cons, List.nodup_cons] at h2
    rw [List.find?_cons]
    by_cases e : q.1 = i
    · have : (q.1 == i) = true := by simpa using e
      rw [this]
      rcases List.mem_cons.mp h1 with h3 | h3
      · rw [← h3]
      · exact absurd (List.mem_map_of_mem (f := Prod.fst) h3) (by show ¬ i ∈ _; rw [← e]; exact h2.1)
    · have : (q.1 == i) = false := by simpa using e
      rw [this]
      rcases List.mem_cons.mp h1 with h3 | h3
      · exact absurd (by rw [← h3]) e
      · exact ih h3 h2.2
theorem xx_put {lv lv' : xL} {i : Nat} {v : Value} {p : Nat × Value → Bool} (hp : ∀ q, p q = true → q.1 ≠ i) (he : xx lv lv') : xx ((i, v) :: lv.filter p) ((i, v) :: lv'.filter p) := by
  refine ⟨fun q hq => ?_, ?_⟩
  · rcases List.mem_cons.mp hq with h | h
    · exact List.mem_cons.mpr (Or.inl h)
    · have h1 := List.mem_filter.mp h
      exact List.mem_cons.mpr (Or.inr (List.mem_filter.mpr ⟨he.1 _ h1.1, h1.2⟩))
  · rw [List.map_cons, List.nodup_cons]
    refine ⟨fun h => ?_, ?_⟩
    · obtain ⟨q, hq, e⟩ := List.mem_map.mp h
      exact hp q (List.mem_filter.mp hq).2 e
    · exact he.2.sublist (List.Sublist.map _ List.filter_sublist)
theorem xx_s1 {lv lv' : xL} {i : Nat} {v : Value} (he : xx lv lv') : xx (xe_s1 lv i v) (xe_s1 lv' i v) := by
  rw [xe_s1_eq, xe_s1_eq]
  exact xx_put (fun q h e => by simp [e] at h) he
theorem xx_s2 {lv lv' : xL} {i : Nat} {v : Value} (he : xx lv lv') : xx (xe_s2 lv i v) (xe_s2 lv' i v) := by
  unfold xe_s2
  exact xx_put (fun q h e => by simp [e] at h) he
section
variable {iv : List (Int32 × Int32)} {a6 : Option Int32} {oc nL pc : Nat} {i : Instr} {lv lv' : xL} {st : List Value} {f : xF}
theorem xx_jmp {t : Option Nat} (h : xe_jmp t lv st = some f) : xe_jmp t lv' st = some (f.1, lv', f.2.2) ∧ f.2.1 = lv := by
  cases t with
  | none => cases h
  | some t => cases h; exact ⟨rfl, rfl⟩
theorem xx_br {k : ClassFile.Cond} {off : Int} {x y : Value} (h : xe_br iv k off pc lv x y st = some f) : xe_br iv k off pc lv' x y st = some (f.1, lv', f.2.2) ∧ f.2.1 = lv := by
  unfold xe_br at h ⊢
  split at h
  · split at h
    · cases h; exact ⟨rfl, rfl⟩
    · cases h
  · cases h
theorem xx_of {g : Option xF} (h : g = some (f.1, lv', f.2.2) ∧ f.2.1 = lv) (he : xx lv lv') : ∃ lv1, g = some (f.1, lv1, f.2.2) ∧ xx f.2.1 lv1 := ⟨lv', h.1, by rw [h.2]; exact he⟩
set_option maxHeartbeats 4000000 in
theorem xx_step1 (he : xx lv lv') (h : xe_step1 iv a6 oc nL i pc lv st = some f) : ∃ lv1, xe_step1 iv a6 oc nL i pc lv' st = some (f.1, lv1, f.2.2) ∧ xx f.2.1 lv1 := by
  unfold xe_step1 at h ⊢
  split at h
  · cases h; exact ⟨lv', rfl, he⟩
  · cases h; exact ⟨lv', rfl, he⟩
  · cases h; exact ⟨lv', rfl, he⟩
  · cases h; exact ⟨lv', rfl, he⟩
  · unfold xa_iload_n at h ⊢
    split at h
    · rename_i v hv
      rw [xx_ld he hv]
      split at h
      · rename_i h0
        cases h
        exact ⟨lv', by dsimp only; rw [if_pos h0], he⟩
      · cases h
    · cases h
  · unfold xa_iload at h ⊢
    split at h
    · rename_i v hv
      rw [xx_ld he hv]
      split at h
      · rename_i h0
        cases h
        exact ⟨lv', by dsimp only; rw [if_pos h0], he⟩
      · cases h
    · cases h
  · unfold xa_lload_n at h ⊢
    split at h
    · rename_i v hv
      rw [xx_ld he hv]
      split at h
      · rename_i h0
        cases h
        exact ⟨lv', by dsimp only; rw [if_pos h0], he⟩
      · cases h
    · cases h
  · unfold xa_lload at h ⊢
    split at h
    · rename_i v hv
      rw [xx_ld he hv]
      split at h
      · rename_i h0
        cases h
        exact ⟨lv', by dsimp only; rw [if_pos h0], he⟩
      · cases h
    · cases h
  · unfold xa_aload_n at h ⊢
    split at h
    · rename_i v hv
      rw [xx_ld he hv]
      split at h
      · rename_i h0
        cases h
        exact ⟨lv', by dsimp only; rw [if_pos h0], he⟩
      · cases h
    · cases h
  · unfold xa_aload at h ⊢
    split at h
    · rename_i v hv
      rw [xx_ld he hv]
      split at h
      · rename_i h0
        cases h
        exact ⟨lv', by dsimp only; rw [if_pos h0], he⟩
      · cases h
    · cases h
  · unfold xa_istore_n at h ⊢
    split at h
    · split at h
      · rename_i h0
        cases h
        exact ⟨_, by dsimp only; rw [if_pos h0], xx_s1 he⟩
      · cases h
    · cases h
  · unfold xa_istore at h ⊢
    split at h
    · split at h
      · rename_i h0
        cases h
        exact ⟨_, by dsimp only; rw [if_pos h0], xx_s1 he⟩
      · cases h
    · cases h
  · unfold xa_lstore_n at h ⊢
    split at h
    · split at h
      · rename_i h0
        cases h
        exact ⟨_, by dsimp only; rw [if_pos h0], xx_s2 he⟩
      · cases h
    · cases h
  · unfold xa_lstore at h ⊢
    split at h
    · split at h
      · rename_i h0
        cases h
        exact ⟨_, by dsimp only; rw [if_pos h0], xx_s2 he⟩
      · cases h
    · cases h
  · unfold xa_astore_n at h ⊢
    split at h
    · split at h
      · rename_i h0
        cases h
        exact ⟨_, by dsimp only; rw [if_pos h0], xx_s1 he⟩
      · cases h
    · cases h
  · unfold xa_astore at h ⊢
    split at h
    · split at h
      · rename_i h0
        cases h
        exact ⟨_, by dsimp only; rw [if_pos h0], xx_s1 he⟩
      · cases h
    · cases h
  · unfold xa_iinc at h ⊢
    split at h
    · rename_i v hv
      rw [xx_ld he hv]
      split at h
      · rename_i h0
        cases h
        exact ⟨_, by dsimp only; rw [if_pos h0], xx_s1 he⟩
      · cases h
    · cases h
  · unfold xa_iadd at h ⊢
    repeat' split at h
    all_goals first | (cases h; done) | (cases h; refine ⟨lv', ?_, he⟩; simp_all)
  · unfold xa_isub at h ⊢
    repeat' split at h
    all_goals first | (cases h; done) | (cases h; refine ⟨lv', ?_, he⟩; simp_all)
  · unfold xa_imul at h ⊢
    repeat' split at h
    all_goals first | (cases h; done) | (cases h; refine ⟨lv', ?_, he⟩; simp_all)
  · unfold xa_iand at h ⊢
    repeat' split at h
    all_goals first | (cases h; done) | (cases h; refine ⟨lv', ?_, he⟩; simp_all)
  · unfold xa_ior at h ⊢
    repeat' split at h
    all_goals first | (cases h; done) | (cases h; refine ⟨lv', ?_, he⟩; simp_all)
  · unfold xa_ishl at h ⊢
    repeat' split at h
    all_goals first | (cases h; done) | (cases h; refine ⟨lv', ?_, he⟩; simp_all)
  · unfold xa_ishr at h ⊢
    repeat' split at h
    all_goals first | (cases h; done) | (cases h; refine ⟨lv', ?_, he⟩; simp_all)
  · unfold xa_idiv at h ⊢
    repeat' split at h
    all_goals first | (cases h; done) | (cases h; refine ⟨lv', ?_, he⟩; simp_all)
  · unfold xa_irem at h ⊢
    repeat' split at h
    all_goals first | (cases h; done) | (cases h; refine ⟨lv', ?_, he⟩; simp_all)
  · unfold xa_ladd at h ⊢
    repeat' split at h
    all_goals first | (cases h; done) | (cases h; refine ⟨lv', ?_, he⟩; simp_all)
  · unfold xa_lmul at h ⊢
    repeat' split at h
    all_goals first | (cases h; done) | (cases h; refine ⟨lv', ?_, he⟩; simp_all)
  · unfold xa_ldiv at h ⊢
    repeat' split at h
    all_goals first | (cases h; done) | (cases h; refine ⟨lv', ?_, he⟩; simp_all)
  · unfold xa_lrem at h ⊢
    repeat' split at h
    all_goals first | (cases h; done) | (cases h; refine ⟨lv', ?_, he⟩; simp_all)
  · unfold xa_lcmp at h ⊢
    repeat' split at h
    all_goals first | (cases h; done) | (cases h; refine ⟨lv', ?_, he⟩; simp_all)
  · unfold xa_i2l at h ⊢
    repeat' split at h
    all_goals first | (cases h; done) | (cases h; refine ⟨lv', ?_, he⟩; simp_all)
  · unfold xa_l2i at h ⊢
    repeat' split at h
    all_goals first | (cases h; done) | (cases h; refine ⟨lv', ?_, he⟩; simp_all)
  · unfold xa_i2b at h ⊢
    repeat' split at h
    all_goals first | (cases h; done) | (cases h; refine ⟨lv', ?_, he⟩; simp_all)
  · unfold xa_ldc at h ⊢
    repeat' split at h
    all_goals first | (cases h; done) | (cases h; refine ⟨lv', ?_, he⟩; simp_all)
  · unfold xa_ldc_w at h ⊢
    repeat' split at h
    all_goals first | (cases h; done) | (cases h; refine ⟨lv', ?_, he⟩; simp_all)
  · unfold xa_iushr at h ⊢
    repeat' split at h
    all_goals first | (cases h; done) | (cases h; refine ⟨lv', ?_, he⟩; simp_all)
  · unfold xa_ldc2_w at h ⊢
    repeat' split at h
    all_goals first | (cases h; done) | (cases h; refine ⟨lv', ?_, he⟩; simp_all)
  · unfold xa_dup at h ⊢
    repeat' split at h
    all_goals first | (cases h; done) | (cases h; refine ⟨lv', ?_, he⟩; simp_all)
  · unfold xa_dup2 at h ⊢
    repeat' split at h
    all_goals first | (cases h; done) | (cases h; refine ⟨lv', ?_, he⟩; simp_all)
  · unfold xa_pop at h ⊢
    repeat' split at h
    all_goals first | (cases h; done) | (cases h; refine ⟨lv', ?_, he⟩; simp_all)
  · unfold xa_pop2 at h ⊢
    repeat' split at h
    all_goals first | (cases h; done) | (cases h; refine ⟨lv', ?_, he⟩; simp_all)
  · exact xx_of (xx_jmp h) he
  · unfold xa_if_icmp at h ⊢
    split at h
    · exact xx_of (xx_br h) he
    · cases h
  · unfold xa_ifCond at h ⊢
    split at h
    · exact xx_of (xx_br h) he
    · cases h
  · unfold xa_tableswitch at h ⊢
    split at h
    · split at h
      · rename_i h0
        rw [if_pos h0]
        exact xx_of (xx_jmp h) he
      · rename_i h0
        rw [if_neg h0]
        split at h
        · exact xx_of (xx_jmp h) he
        · cases h
    · split at h
      · rename_i q hq
        split at h
        · rename_i h0
          rw [if_pos h0]
          exact xx_of (xx_jmp h) he
        · cases h
      · cases h
    · cases h
  · cases h
end
section
variable {iv : List (Int32 × Int32)} {a6 : Option Int32} {sc : Option (List Value)} {call0 call : Nat → List Value → xM → Option xO} {tb : xI} {oc nL rt : Nat} {ini : Bool}
theorem xx_step2 {i : Instr} {pc : Nat} {lv : xL} (lv' : xL) {st : List Value} {M : xM} {g : xF × xM} (h : xe_step2 sc oc ini i pc lv st M = some g) : xe_step2 sc oc ini i pc lv' st M = some ((g.1.1, lv', g.1.2.2), g.2) ∧ g.1.2.1 = lv ∧ xe_step1 iv a6 oc nL i pc lv' st = none := by
  unfold xe_step2 at h ⊢
  split at h
  · unfold xb_getfield at h ⊢
    repeat' split at h
    all_goals first | (cases h; done) | (cases h; refine ⟨?_, rfl, rfl⟩; simp_all)
  · unfold xb_putfield at h ⊢
    repeat' split at h
    all_goals first | (cases h; done) | (cases h; refine ⟨?_, rfl, rfl⟩; simp_all)
  · unfold xb_iaload at h ⊢
    repeat' split at h
    all_goals first | (cases h; done) | (cases h; refine ⟨?_, rfl, rfl⟩; simp_all)
  · unfold xb_iastore at h ⊢
    repeat' split at h
    all_goals first | (cases h; done) | (cases h; refine ⟨?_, rfl, rfl⟩; simp_all)
  · unfold xb_aaload at h ⊢
    repeat' split at h
    all_goals first | (cases h; done) | (cases h; refine ⟨?_, rfl, rfl⟩; simp_all)
  · unfold xb_aastore at h ⊢
    repeat' split at h
    all_goals first | (cases h; done) | (cases h; refine ⟨?_, rfl, rfl⟩; simp_all)
  · unfold xb_arraylength at h ⊢
    repeat' split at h
    all_goals first | (cases h; done) | (cases h; refine ⟨?_, rfl, rfl⟩; simp_all)
  · unfold xb_getstatic at h ⊢
    repeat' split at h
    all_goals first | (cases h; done) | (cases h; refine ⟨?_, rfl, rfl⟩; simp_all)
  · cases h
theorem xx_cont {ih ih' : Nat → xL → List Value → xM → Option xO} {pc : Nat} {lv lv' : xL} {rest : List Value} {c : Option xO} {o : xO} (hi : ∀ pc st M o, ih pc lv st M = some o → ih' pc lv' st M = some o) (h : xe_cont ih pc lv rest c = some o) : xe_cont ih' pc lv' rest c = some o := by
  unfold xe_cont at h ⊢
  split at h
  · split at h
    · rename_i o2 h2
      rw [hi _ _ _ _ h2]
      exact h
    · cases h
  · cases h
theorem xx_made {a b : Option xO} {n : Nat} {o : xO} (hi : ∀ o, a = some o → b = some o) (h : xe_made a n = some o) : xe_made b n = some o := by
  unfold xe_made at h
  split at h
  · rename_i o1
    rw [hi _ rfl]
    exact h
  · cases h
set_option maxHeartbeats 4000000 in
theorem xx_step3 {ih ih' : Nat → xL → List Value → xM → Option xO} {i : Instr} {pc : Nat} {lv lv' : xL} {st : List Value} {M : xM} {o : xO} (hi : ∀ pc st M o, ih pc lv st M = some o → ih' pc lv' st M = some o) (h : xe_step3 call0 call oc rt i pc lv st M ih = some o) : xe_step3 call0 call oc rt i pc lv' st M ih' = some o ∧ xe_step1 iv a6 oc nL i pc lv' st = none ∧ xe_step2 sc oc ini i pc lv' st M = none := by
  unfold xe_step3 at h ⊢
  split at h
  · refine ⟨?_, rfl, rfl⟩
    unfold xd_new at h ⊢
    repeat' split at h
    all_goals first | (cases h; done) | (simp only [*, if_true]; exact xx_made (hi _ _ _) h)
  · refine ⟨?_, rfl, rfl⟩
    unfold xd_newarray at h ⊢
    repeat' split at h
    all_goals first | (cases h; done) | (rename_i h0; simp only [if_pos h0]; exact xx_made (hi _ _ _) h)
  · refine ⟨?_, rfl, rfl⟩
    unfold xd_anewarray at h ⊢
    repeat' split at h
    all_goals first | (cases h; done) | (rename_i h0; simp only [if_pos h0]; exact xx_made (hi _ _ _) h)
  · refine ⟨?_, rfl, rfl⟩
    unfold xd_invokestatic xe_callS at h ⊢
    split at h
    · repeat' split at h
      all_goals first | (cases h; done) | (rename_i h0; simp only [if_pos h0]; exact xx_cont hi h)
    · unfold xe_copy at h ⊢
      repeat' split at h
      all_goals first | (cases h; done) | (rename_i h0; simp only [if_pos h0]; exact hi _ _ _ _ h)
    · repeat' split at h
      all_goals first | (cases h; done) | (rename_i h0; simp only [if_pos h0]; exact xx_cont hi h)
    · repeat' split at h
      all_goals first | (cases h; done) | (rename_i h0; simp only [if_pos h0]; exact xx_cont hi h)
    · split at h
      · split at h
        · rename_i h0
          simp only [if_pos h0]
          exact hi _ _ _ _ h
        · cases h
      · cases h
    · split at h
      · split at h
        · rename_i h0
          simp only [if_pos h0]
          exact hi _ _ _ _ h
        · cases h
      · cases h
    · cases h
  · refine ⟨?_, rfl, rfl⟩
    unfold xd_invokespecial xe_callI at h ⊢
    split at h
    · repeat' split at h
      all_goals first | (cases h; done) | (simp only [*, if_true]; exact xx_cont hi h)
    · repeat' split at h
      all_goals first | (cases h; done) | (simp only [*, if_true]; exact xx_cont hi h)
    · repeat' split at h
      all_goals first | (cases h; done) | (simp only [*, if_true]; exact xx_cont hi h)
    · repeat' split at h
      all_goals first | (cases h; done) | (simp only [*, if_true]; exact hi _ _ _ _ h)
    · cases h
  · refine ⟨?_, rfl, rfl⟩
    unfold xd_invokevirtual xe_callV at h ⊢
    repeat' split at h
    all_goals first | (cases h; done) | (simp only [*, if_true]; exact xx_cont hi h)
  · exact ⟨h, rfl, rfl⟩
  · exact ⟨h, rfl, rfl⟩
  · exact ⟨h, rfl, rfl⟩
  · exact ⟨h, rfl, rfl⟩
  · cases h
theorem xx_run : ∀ (n pc : Nat) (lv lv' : xL) (st : List Value) (M : xM) (o : xO), xx lv lv' → xe_run iv a6 sc call0 call tb oc nL rt ini n pc lv st M = some o → xe_run iv a6 sc call0 call tb oc nL rt ini n pc lv' st M = some o := by
  intro n
  induction n with
  | zero => intro pc lv lv' st M o _ h; cases h
  | succ n ih =>
    intro pc lv lv' st M o he h
    have h : xe_body iv a6 sc call0 call tb oc nL rt ini (xe_run iv a6 sc call0 call tb oc nL rt ini n) pc lv st M = some o := h
    show xe_body iv a6 sc call0 call tb oc nL rt ini (xe_run iv a6 sc call0 call tb oc nL rt ini n) pc lv' st M = some o
    unfold xe_body at h ⊢
    split at h
    · cases h
    · rename_i q hq
      split at h
      · rename_i f hf
        obtain ⟨lv1, h1, h2⟩ := xx_step1 he hf
        rw [h1]
        exact ih _ _ _ _ _ _ h2 h
      · split at h
        · rename_i g hg
          obtain ⟨h1, h2, h3⟩ := xx_step2 (iv := iv) (a6 := a6) (nL := nL) lv' hg
          rw [h3]
          dsimp only
          rw [h1]
          rw [h2] at h
          exact ih _ _ _ _ _ _ he h
        · obtain ⟨h1, h2, h3⟩ := xx_step3 (iv := iv) (a6 := a6) (nL := nL) (sc := sc) (ini := ini) (fun pc st M o z => ih pc lv lv' st M o he z) h
          rw [h2]
          dsimp only
          rw [h3]
          exact h1
end
section
variable {q : xQ} {k pc : Nat} {lv lv' : xL} {st : List Value} {M M' : xM} {P : Option Value → xM → Prop}
theorem xS.ext (h : xS q k pc lv st M P) (he : xx lv lv') : xS q k pc lv' st M P := by
  obtain ⟨r, M', hP, n0, f0, h⟩ := h
  exact ⟨r, M', hP, n0, f0, fun n f d h0 h1 h2 => xx_run _ _ _ _ _ _ _ he (h n f d h0 h1 h2)⟩
def xpick (lv : xL) (ps : List Nat) : xL := ps.filterMap (fun i => lv[i]?)
def xnd (lv : xL) : Bool := match lv with
  | [] => true
  | q :: t => t.all (fun p => !(Nat.beq p.1 q.1)) && xnd t
theorem xnd_ok : ∀ {lv : xL}, xnd lv = true → (lv.map Prod.fst).Nodup
  | [], _ => List.nodup_nil
  | q :: t, h => by
    unfold xnd at h
    rw [Bool.and_eq_true] at h
    rw [List.map_cons, List.nodup_cons]
    refine ⟨fun hm => ?_, xnd_ok h.2⟩
    obtain ⟨p, hp, e⟩ := List.mem_map.mp hm
    have := List.all_eq_true.mp h.1 p hp
    rw [e] at this
    simp at this
theorem xS.pick (ps : List Nat) (hn : xnd lv = true) (h : xS q k pc (xpick lv ps) st M P) : xS q k pc lv st M P := by
  refine h.ext ⟨fun p hp => ?_, xnd_ok hn⟩
  obtain ⟨i, _, hi⟩ := List.mem_filterMap.mp hp
  exact List.mem_of_getElem? hi
theorem xS.cast (h : xS q k pc lv st M P) (e1 : lv' = lv) (e2 : M' = M) : xS q k pc lv' st M' P := by
  rw [e1, e2]
  exact h
end
/-- downwards -/
theorem xdn {N : Nat} {C : Nat → Prop} (h : ∀ j, j ≤ N → (∀ j', j < j' → j' ≤ N → C j') → C j) : ∀ j, j ≤ N → C j := by
  have key : ∀ t j, j ≤ N → N - j ≤ t → C j := by
    intro t
    induction t with
    | zero => intro j hj ht; exact h j hj (fun j' h1 h2 => absurd h2 (by omega))
    | succ t ih => intro j hj ht; exact h j hj (fun j' h1 h2 => ih j' h2 (by omega))
  exact fun j hj => key (N - j) j hj (Nat.le_refl _)
/-- a count of turns -/
def xfo {α : Type} (f : α → Nat → α) (a : α) (n : Nat) : α := Nat.rec (motive := fun _ => α) a (fun j b => f b j) n
theorem xfo_0 {α : Type} (f : α → Nat → α) (a : α) : xfo f a 0 = a := rfl
theorem xfo_s {α : Type} (f : α → Nat → α) (a : α) (n : Nat) : xfo f a (n + 1) = f (xfo f a n) n := rfl
theorem xfo_inv {α : Type} {f : α → Nat → α} {a : α} {Q : α → Prop} (h0 : Q a) (hs : ∀ b j, Q b → Q (f b j)) (n : Nat) : Q (xfo f a n) := by
  induction n with
  | zero => exact h0
  | succ n ih => exact hs _ _ ih
/-- the first turn with p, of those from j on (t of them), or behind them -/
def xfs (p : Nat → Bool) (t : Nat) : Nat → Nat := Nat.rec (motive := fun _ => Nat → Nat) (fun j => j) (fun _ ih j => bif p j then j else ih (j + 1)) t
section
variable {q : xQ} {k pc l a ci : Nat} {lv : xL} {st rest : List Value} {M : xM} {P : Option Value → xM → Prop} {vs : List Value} {v : Value} {x : Int32} {ns : List Int32}
theorem xS.ialdN {t : Nat} (hl : xe_lkF q.1 pc = some (.iaload, l)) (hM : M[a]? = some (12, xIs ns)) (ht : t < ns.length) (hn : t < 2 ^ 31) (h : xS q k (pc + 1) lv (.int (ns.getD t 0) :: rest) M P) : xS q k pc lv (.int (nI t) :: .ref a :: rest) M P := by
  refine xS.iald hl hM (nI_pos hn) ?_ h
  rw [nI_clamp hn, List.getD_eq_getElem?_getD, List.getElem?_eq_getElem ht]
  rfl
theorem xS.iastN {t : Nat} (hl : xe_lkF q.1 pc = some (.iastore, l)) (hM : M[a]? = some (12, xIs ns)) (ht : t < ns.length) (hn : t < 2 ^ 31) (h : xS q k (pc + 1) lv rest (M.set a (12, xIs (ns.set t x))) P) : xS q k pc lv (.int x :: .int (nI t) :: .ref a :: rest) M P := by
  refine xS.iast hl hM (nI_pos hn) (by rw [nI_clamp hn]; exact ht) ?_
  rw [nI_clamp hn]
  exact h
theorem xS.aaldN {t : Nat} (hl : xe_lkF q.1 pc = some (.aaload, l)) (hM : M[a]? = some (ci, vs)) (hci : 12 < ci ∧ ci < 16) (hn : t < 2 ^ 31) (hv : vs[t]? = some v) (hN : xe_isN v = true) (h : xS q k (pc + 1) lv (v :: rest) M P) : xS q k pc lv (.int (nI t) :: .ref a :: rest) M P := by
  refine xS.aald hl hM hci (nI_pos hn) ?_ hN h
  rw [nI_clamp hn]
  exact hv
theorem xS.beq {p : Prop} {dp : Decidable p} {off : Int} {t : Nat} (hl : xe_lkF q.1 pc = some (.ifCond .eq off, l)) (ht : xe_tg pc off = some t) (hy : ¬ p → xS q k t lv rest M P) (hn : p → xS q k (pc + 3) lv rest M P) : xS q k pc lv (.int (@ite _ p dp 1 0) :: rest) M P := by
  refine xS.br0 hl ht (fun h => hy (xif0 (of_decide_eq_true h))) (fun h => hn (xif1 (of_decide_eq_false h)))
theorem xS.bne {p : Prop} {dp : Decidable p} {off : Int} {t : Nat} (hl : xe_lkF q.1 pc = some (.ifCond .ne off, l)) (ht : xe_tg pc off = some t) (hy : p → xS q k t lv rest M P) (hn : ¬ p → xS q k (pc + 3) lv rest M P) : xS q k pc lv (.int (@ite _ p dp 1 0) :: rest) M P := by
  refine xS.br0 hl ht (fun h => hy (xif1 (of_decide_eq_true h))) (fun h => hn (xif0 (Classical.not_not.mp (of_decide_eq_false h))))
end
end
section
/-! THE CELLS behind both constructors: their shape never changes but for room and draft (b); ints in g, longs in l, by address and place -/
def xsh_1 : List Value := [.ref 23, .ref 25, .ref 27, .ref 29, .ref 31, .ref 33]
def xsh_2 : List Value := [.ref 35, .ref 37, .ref 39, .ref 41]
def xsh_3 : List Value := [.ref 43, .ref 44, .ref 45, .ref 46, .ref 47, .ref 48, .ref 49, .ref 50, .ref 51, .ref 52, .ref 53, .ref 54, .ref 55, .ref 56, .ref 57, .ref 58, .ref 59, .ref 60, .ref 61, .ref 62, .ref 63, .ref 64, .ref 65, .ref 66]
def xsh_6 : List Value := [.ref 67, .ref 69, .ref 71]
def xsh (b : Nat × Nat) : xM := [(10, [.ref 1, .ref 2, .ref 3, .ref 4, .ref 6, .ref b.1, .ref b.2, .ref 15, .ref 17, .ref 18, .ref 19, .int 0, .long 0, .long 0, .int 0, .ref 22]),
  (13, xsh_1),
  (13, xsh_2),
  (15, xsh_3),
  (2, [.ref 5, .int 0]),
  (12, List.replicate 160 (.int 0)),
  (14, xsh_6),
  (7, [.ref 8, .ref 9, .int 0, .ref 10, .int 0]),
  (12, List.replicate 6 (.int 0)),
  (12, List.replicate 6 (.int 0)),
  (12, List.replicate 16 (.int 0)),
  (7, [.ref 12, .ref 13, .int 0, .ref 14, .int 0]),
  (12, List.replicate 6 (.int 0)),
  (12, List.replicate 6 (.int 0)),
  (12, List.replicate 16 (.int 0)),
  (0, [.ref 16, .int 0]),
  (12, List.replicate 12 (.int 0)),
  (12, List.replicate 6 (.int 0)),
  (12, List.replicate 6 (.int 0)),
  (1, [.ref 20, .ref 21, .int 0, .int 0, .int 0]),
  (12, List.replicate 30 (.int 0)),
  (12, List.replicate 30 (.int 0)),
  (12, List.replicate 6 (.int 0)),
  (0, [.ref 24, .int 0]),
  (12, List.replicate 40 (.int 0)),
  (0, [.ref 26, .int 0]),
  (12, List.replicate 40 (.int 0)),
  (0, [.ref 28, .int 0]),
  (12, List.replicate 40 (.int 0)),
  (0, [.ref 30, .int 0]),
  (12, List.replicate 40 (.int 0)),
  (0, [.ref 32, .int 0]),
  (12, List.replicate 40 (.int 0)),
  (0, [.ref 34, .int 0]),
  (12, List.replicate 40 (.int 0)),
  (0, [.ref 36, .int 0]),
  (12, List.replicate 60 (.int 0)),
  (0, [.ref 38, .int 0]),
  (12, List.replicate 60 (.int 0)),
  (0, [.ref 40, .int 0]),
  (12, List.replicate 60 (.int 0)),
  (0, [.ref 42, .int 0]),
  (12, List.replicate 60 (.int 0)),
  (6, [.int 0, .int 0]),
  (6, [.int 0, .int 0]),
  (6, [.int 0, .int 0]),
  (6, [.int 0, .int 0]),
  (4, [.int 0, .int 0]),
  (4, [.int 0, .int 0]),
  (4, [.int 0, .int 0]),
  (4, [.int 0, .int 0]),
  (8, [.int 0, .int 0]),
  (8, [.int 0, .int 0]),
  (8, [.int 0, .int 0]),
  (8, [.int 0, .int 0]),
  (9, [.int 0, .int 0]),
  (9, [.int 0, .int 0]),
  (9, [.int 0, .int 0]),
  (9, [.int 0, .int 0]),
  (5, [.int 0, .int 0]),
  (5, [.int 0, .int 0]),
  (5, [.int 0, .int 0]),
  (5, [.int 0, .int 0]),
  (3, [.int 0, .int 0]),
  (3, [.int 0, .int 0]),
  (3, [.int 0, .int 0]),
  (3, [.int 0, .int 0]),
  (2, [.ref 68, .int 0]),
  (12, List.replicate 160 (.int 0)),
  (2, [.ref 70, .int 0]),
  (12, List.replicate 160 (.int 0)),
  (2, [.ref 72, .int 0]),
  (12, List.replicate 160 (.int 0)),
  (11, [.ref 74, .ref 75, .ref 76, .ref 77, .ref 78, .int 0, .ref 79, .int 0, .ref 80, .ref 81, .int 0, .ref 82, .int 0, .ref 83, .int 0, .ref 84, .ref 85, .ref 86, .ref 87, .ref 88, .int 0, .long 0, .long 0, .int 0, .ref 89, .ref 90, .ref 91, .ref 92, .int 0, .int 0, .int 0, .long 0]),
  (12, List.replicate 6 (.int 0)),
  (12, List.replicate 240 (.int 0)),
  (12, List.replicate 4 (.int 0)),
  (12, List.replicate 240 (.int 0)),
  (12, List.replicate 6 (.int 0)),
  (12, List.replicate 12 (.int 0)),
  (12, List.replicate 16 (.int 0)),
  (12, List.replicate 6 (.int 0)),
  (12, List.replicate 12 (.int 0)),
  (12, List.replicate 16 (.int 0)),
  (12, List.replicate 40 (.int 0)),
  (12, List.replicate 40 (.int 0)),
  (12, List.replicate 3 (.int 0)),
  (12, List.replicate 120 (.int 0)),
  (12, List.replicate 120 (.int 0)),
  (12, List.replicate 6 (.int 0)),
  (12, List.replicate 13 (.int 0)),
  (12, List.replicate 13 (.int 0)),
  (12, List.replicate 13 (.int 0))]
def xfi (g : Nat → Nat → Int32) (l : Nat → Nat → Int64) (a i : Nat) (v : Value) : Value := match v with
  | .int _ => .int (g a i)
  | .long _ => .long (l a i)
  | v => v
/-- behind a choice, so that nothing unfolds it -/
noncomputable def xHo : {f : Nat × Nat → (Nat → Nat → Int32) → (Nat → Nat → Int64) → xM // f = fun b g l => (xsh b).mapIdx (fun a c => (c.1, c.2.mapIdx (xfi g l a)))} := Classical.choice ⟨⟨_, rfl⟩⟩
noncomputable def xH (b : Nat × Nat) (g : Nat → Nat → Int32) (l : Nat → Nat → Int64) : xM := xHo.val b g l
theorem xH_eq (b : Nat × Nat) (g : Nat → Nat → Int32) (l : Nat → Nat → Int64) : xH b g l = (xsh b).mapIdx (fun a c => (c.1, c.2.mapIdx (xfi g l a))) := by
  unfold xH
  rw [xHo.property]
def up {α : Type} (g : Nat → Nat → α) (a i : Nat) (v : α) : Nat → Nat → α := fun a' i' => if a' = a ∧ i' = i then v else g a' i'
theorem up_same {α : Type} (g : Nat → Nat → α) (a i : Nat) (v : α) : up g a i v a i = v := if_pos ⟨rfl, rfl⟩
theorem up_ne {α : Type} {g : Nat → Nat → α} {a i a' i' : Nat} {v : α} (h : a' ≠ a ∨ i' ≠ i) : up g a i v a' i' = g a' i' := if_neg (fun z => by rcases h with h | h; exact h z.1; exact h z.2)
theorem up_na {α : Type} {g : Nat → Nat → α} {a i a' : Nat} {v : α} (h : a' ≠ a) : up g a i v a' = g a' := funext (fun _ => up_ne (Or.inl h))
section
variable {b : Nat × Nat} {g : Nat → Nat → Int32} {l : Nat → Nat → Int64} {a i ci n : Nat} {fs : List Value} {z : Int32} {zl : Int64}
theorem xH_get (h : (xsh b)[a]? = some (ci, fs)) : (xH b g l)[a]? = some (ci, fs.mapIdx (xfi g l a)) := by
  rw [xH_eq, List.getElem?_mapIdx, h]
  rfl
theorem xH_setI {v : Int32} (h : (xsh b)[a]? = some (ci, fs)) (hz : fs[i]? = some (.int z)) : (xH b g l).set a (ci, (fs.mapIdx (xfi g l a)).set i (.int v)) = xH b (up g a i v) l := by
  apply List.ext_getElem?
  intro a'
  by_cases e : a = a'
  · subst e
    have hlt : a < (xH b g l).length := (List.getElem?_eq_some_iff.mp (xH_get (g := g) (l := l) h)).1
    rw [List.getElem?_set_self hlt, xH_get (g := up g a i v) (l := l) h]
    congr 2
    apply List.ext_getElem?
    intro j
    rw [List.getElem?_set, List.getElem?_mapIdx, List.getElem?_mapIdx, List.length_mapIdx]
    by_cases e2 : i = j
    · subst e2
      have hi : i < fs.length := (List.getElem?_eq_some_iff.mp hz).1
      rw [if_pos rfl, if_pos hi, hz]
      show some (Value.int v) = some (xfi (up g a i v) l a i (.int z))
      unfold xfi
      rw [up_same]
    · rw [if_neg e2]
      cases hw : fs[j]? with
      | none => rfl
      | some w =>
        show some (xfi g l a j w) = some (xfi (up g a i v) l a j w)
        unfold xfi
        rw [up_ne (Or.inr (Ne.symm e2))]
  · rw [List.getElem?_set_ne e]
    rw [xH_eq, xH_eq, List.getElem?_mapIdx, List.getElem?_mapIdx]
    cases hc : (xsh b)[a']? with
    | none => rfl
    | some c =>
      have e1 : xfi (up g a i v) l a' = xfi g l a' := by
        funext j w
        unfold xfi
        rw [up_na (Ne.symm e)]
      simp [e1]
theorem xH_setL {v : Int64} (h : (xsh b)[a]? = some (ci, fs)) (hz : fs[i]? = some (.long zl)) : (xH b g l).set a (ci, (fs.mapIdx (xfi g l a)).set i (.long v)) = xH b g (up l a i v) := by
  apply List.ext_getElem?
  intro a'
  by_cases e : a = a'
  · subst e
    have hlt : a < (xH b g l).length := (List.getElem?_eq_some_iff.mp (xH_get (g := g) (l := l) h)).1
    rw [List.getElem?_set_self hlt, xH_get (g := g) (l := up l a i v) h]
    congr 2
    apply List.ext_getElem?
    intro j
    rw [List.getElem?_set, List.getElem?_mapIdx, List.getElem?_mapIdx, List.length_mapIdx]
    by_cases e2 : i = j
    · subst e2
      have hi : i < fs.length := (List.getElem?_eq_some_iff.mp hz).1
      rw [if_pos rfl, if_pos hi, hz]
      show some (Value.long v) = some (xfi g (up l a i v) a i (.long zl))
      unfold xfi
      rw [up_same]
    · rw [if_neg e2]
      cases hw : fs[j]? with
      | none => rfl
      | some w =>
        show some (xfi g l a j w) = some (xfi g (up l a i v) a j w)
        unfold xfi
        rw [up_ne (Or.inr (Ne.symm e2))]
  · rw [List.getElem?_set_ne e]
    rw [xH_eq, xH_eq, List.getElem?_mapIdx, List.getElem?_mapIdx]
    cases hc : (xsh b)[a']? with
    | none => rfl
    | some c =>
      have e1 : xfi g (up l a i v) a' = xfi g l a' := by
        funext j w
        unfold xfi
        rw [up_na (Ne.symm e)]
      simp [e1]
end
section
variable {q : xQ} {k pc l0 a t : Nat} {lv : xL} {rest : List Value} {P : Option Value → xM → Prop} {vs : List Value} {M : xM} {x : Int32}
theorem xS.iaG (hl : xe_lkF q.1 pc = some (.iaload, l0)) (hM : M[a]? = some (12, vs)) (hn : t < 2 ^ 31) (hv : vs[t]? = some (.int x)) (h : xS q k (pc + 1) lv (.int x :: rest) M P) : xS q k pc lv (.int (nI t) :: .ref a :: rest) M P := by
  refine xS.s2 hl rfl (g := ((pc + 1, lv, .int x :: rest), M)) ?_ h
  show xb_iaload none pc lv (.int (nI t) :: .ref a :: rest) M = _
  unfold xb_iaload
  have h2 : ¬ xlt (nI t) 0 = true := by rw [xlt_iff]; exact nI_pos hn
  simp only [xg_eq, hM, h2, nI_clamp hn, hv, true_and, not_false_eq_true, if_true]
  rfl
theorem xS.iasG (hl : xe_lkF q.1 pc = some (.iastore, l0)) (hM : M[a]? = some (12, vs)) (hn : t < 2 ^ 31) (hv : t < vs.length) (h : xS q k (pc + 1) lv rest (M.set a (12, vs.set t (.int x))) P) : xS q k pc lv (.int x :: .int (nI t) :: .ref a :: rest) M P := by
  refine xS.s2 hl rfl (g := ((pc + 1, lv, rest), M.set a (12, vs.set t (.int x)))) ?_ h
  show xb_iastore pc lv (.int x :: .int (nI t) :: .ref a :: rest) M = _
  unfold xb_iastore
  have h2 : ¬ xlt (nI t) 0 = true := by rw [xlt_iff]; exact nI_pos hn
  simp only [xg_eq, xse_eq, xln_eq, hM, h2, nI_clamp hn, hv, true_and, and_true, not_false_eq_true]
  rfl
end
def xar (a n : Nat) : Prop := (∀ b, (xsh b)[a]? = some (12, List.replicate n (.int 0))) ∧ n ≤ 1000
def xob (a ci : Nat) (fs : List Value) : Prop := ∀ b, (xsh b)[a]? = some (ci, fs)
section
variable {q : xQ} {k pc l0 idx a ci n t : Nat} {lv : xL} {st rest : List Value} {P : Option Value → xM → Prop} {fs : List Value} {e : xFE} {b : Nat × Nat} {g : Nat → Nat → Int32} {l : Nat → Nat → Int64} {z x : Int32} {zl y : Int64} {c : Nat}
theorem xS.gI (hl : xe_lkF q.1 pc = some (.getfield idx, l0)) (hM : (xsh b)[a]? = some (ci, fs)) (he : xfF q.2.1 idx = some e) (hc : ci < 12 ∧ e.2.2.2.2.contains ci = true) (hv : fs[e.2.1]? = some (.int z)) (h : xS q k (pc + 3) lv (.int (g a e.2.1) :: rest) (xH b g l) P) : xS q k pc lv (.ref a :: rest) (xH b g l) P :=
  xS.get hl (xH_get hM) he hc (by rw [List.getElem?_mapIdx, hv]; rfl) h
theorem xS.gL (hl : xe_lkF q.1 pc = some (.getfield idx, l0)) (hM : (xsh b)[a]? = some (ci, fs)) (he : xfF q.2.1 idx = some e) (hc : ci < 12 ∧ e.2.2.2.2.contains ci = true) (hv : fs[e.2.1]? = some (.long zl)) (h : xS q k (pc + 3) lv (.long (l a e.2.1) :: rest) (xH b g l) P) : xS q k pc lv (.ref a :: rest) (xH b g l) P :=
  xS.get hl (xH_get hM) he hc (by rw [List.getElem?_mapIdx, hv]; rfl) h
theorem xS.gR (hl : xe_lkF q.1 pc = some (.getfield idx, l0)) (hM : (xsh b)[a]? = some (ci, fs)) (he : xfF q.2.1 idx = some e) (hc : ci < 12 ∧ e.2.2.2.2.contains ci = true) (hv : fs[e.2.1]? = some (.ref c)) (h : xS q k (pc + 3) lv (.ref c :: rest) (xH b g l) P) : xS q k pc lv (.ref a :: rest) (xH b g l) P :=
  xS.get hl (xH_get hM) he hc (by rw [List.getElem?_mapIdx, hv]; rfl) h
theorem xS.pI (hl : xe_lkF q.1 pc = some (.putfield idx, l0)) (hM : (xsh b)[a]? = some (ci, fs)) (he : xfF q.2.1 idx = some e) (hc : (ci < 12 ∧ e.2.2.2.2.contains ci = true) ∧ ((0 : Nat) = e.2.2.1 ∧ (e.2.2.2.1 = true → q.2.2.2.2 = true) ∧ e.2.2.1 < 3)) (hv : fs[e.2.1]? = some (.int z)) (h : xS q k (pc + 3) lv rest (xH b (up g a e.2.1 x) l) P) : xS q k pc lv (.int x :: .ref a :: rest) (xH b g l) P := by
  refine xS.put hl (xH_get hM) he ⟨hc.1, hc.2, ?_⟩ ?_
  · rw [List.length_mapIdx]
    exact (List.getElem?_eq_some_iff.mp hv).1
  · rw [xH_setI hM hv]
    exact h
theorem xS.pL (hl : xe_lkF q.1 pc = some (.putfield idx, l0)) (hM : (xsh b)[a]? = some (ci, fs)) (he : xfF q.2.1 idx = some e) (hc : (ci < 12 ∧ e.2.2.2.2.contains ci = true) ∧ ((1 : Nat) = e.2.2.1 ∧ (e.2.2.2.1 = true → q.2.2.2.2 = true) ∧ e.2.2.1 < 3)) (hv : fs[e.2.1]? = some (.long zl)) (h : xS q k (pc + 3) lv rest (xH b g (up l a e.2.1 y)) P) : xS q k pc lv (.long y :: .ref a :: rest) (xH b g l) P := by
  refine xS.put hl (xH_get hM) he ⟨hc.1, hc.2, ?_⟩ ?_
  · rw [List.length_mapIdx]
    exact (List.getElem?_eq_some_iff.mp hv).1
  · rw [xH_setL hM hv]
    exact h
theorem xS.ia (hl : xe_lkF q.1 pc = some (.iaload, l0)) (ha : xar a n) (ht : t < n) (h : xS q k (pc + 1) lv (.int (g a t) :: rest) (xH b g l) P) : xS q k pc lv (.int (nI t) :: .ref a :: rest) (xH b g l) P :=
  xS.iaG hl (xH_get (ha.1 b)) (by have := ha.2; omega) (by rw [List.getElem?_mapIdx, List.getElem?_replicate, if_pos ht]; rfl) h
theorem xS.ias (hl : xe_lkF q.1 pc = some (.iastore, l0)) (ha : xar a n) (ht : t < n) (h : xS q k (pc + 1) lv rest (xH b (up g a t x) l) P) : xS q k pc lv (.int x :: .int (nI t) :: .ref a :: rest) (xH b g l) P :=
  xS.iasG hl (xH_get (ha.1 b)) (by have := ha.2; omega) (by rw [List.length_mapIdx, List.length_replicate]; exact ht) (by rw [xH_setI (ha.1 b) (by rw [List.getElem?_replicate, if_pos ht])]; exact h)
theorem xS.al (hl : xe_lkF q.1 pc = some (.arraylength, l0)) (ha : xar a n) (h : xS q k (pc + 1) lv (.int (nI n) :: rest) (xH b g l) P) : xS q k pc lv (.ref a :: rest) (xH b g l) P := by
  refine xS.alen hl (xH_get (ha.1 b)) (by decide) ?_
  rw [List.length_mapIdx, List.length_replicate]
  exact h
theorem xS.alo (hl : xe_lkF q.1 pc = some (.arraylength, l0)) (hM : (xsh b)[a]? = some (ci, fs)) (hci : 12 ≤ ci ∧ ci < 16) (hn : fs.length = n) (h : xS q k (pc + 1) lv (.int (nI n) :: rest) (xH b g l) P) : xS q k pc lv (.ref a :: rest) (xH b g l) P := by
  refine xS.alen hl (xH_get hM) hci ?_
  rw [List.length_mapIdx, hn]
  exact h
theorem xS.aR (hl : xe_lkF q.1 pc = some (.aaload, l0)) (hM : (xsh b)[a]? = some (ci, fs)) (hci : 12 < ci ∧ ci < 16) (hn : t < 2 ^ 31) (hv : fs[t]? = some (.ref c)) (h : xS q k (pc + 1) lv (.ref c :: rest) (xH b g l) P) : xS q k pc lv (.int (nI t) :: .ref a :: rest) (xH b g l) P :=
  xS.aald hl (xH_get hM) hci (nI_pos hn) (v := .ref c) (by rw [nI_clamp hn, List.getElem?_mapIdx, hv]; rfl) rfl h
/-- a virtual call of an object whose kind is known -/
theorem xS.cv {m : Nat} {rs : List (Nat × Nat)} {idx' : Nat} {e : Nat × Nat} {Q : xME} {P1 : Option Value → xM → Prop} (hl : xe_lkF q.1 pc = some (.invokevirtual idx, l0)) (hx : xcF q.2.1 idx = some (idx', 3, m, rs)) (hd : st.drop m = .ref a :: rest) (hM : (xsh b)[a]? = some (ci, fs)) (hr : xfd rs ci = some e) (hm : xmF e.2 = some Q) (hn : ci < 12 ∧ Q.2.2.2.2 = m ∧ xe_sum rest = true) (hT : xT k e.2 (.ref a :: (st.take m).reverse) (xH b g l) P1) (h : ∀ v M1, P1 v M1 → xS q k (pc + 3) lv (v.toList ++ rest) M1 P) : xS q k pc lv st (xH b g l) P :=
  xS.callV hl hx hd (xH_get hM) hr hm hn hT h
theorem xS.csup {mn : Nat} {rs : List (Nat × Nat)} {idx' : Nat} {Q : xME} {P1 : Option Value → xM → Prop} (hl : xe_lkF q.1 pc = some (.invokespecial idx, l0)) (hx : xcF q.2.1 idx = some (idx', 9, mn, rs)) (hm : xmF mn = some Q) (hd : st.drop Q.2.2.2.2 = .ref a :: rest) (hM : (xsh b)[a]? = some (ci, fs)) (hn : ci < 12 ∧ xe_sum rest = true) (hT : xT k mn (.ref a :: (st.take Q.2.2.2.2).reverse) (xH b g l) P1) (h : ∀ v M1, P1 v M1 → xS q k (pc + 3) lv (v.toList ++ rest) M1 P) : xS q k pc lv st (xH b g l) P :=
  xS.callSup hl hx hm hd (xH_get hM) hn hT h
/-- the end of a boolean method -/
theorem xS.retB {p : Prop} {dp : Decidable p} {M : xM} (hl : xe_lkF q.1 pc = some (.ireturn, l0)) (hrt : q.2.2.2.1 = 2) (hP : P (some (.int (@ite _ p dp 1 0))) M) : xS q k pc lv [.int (@ite _ p dp 1 0)] M P := by
  by_cases hp : p
  · rw [if_pos hp] at hP ⊢
    exact xS.ret hl rfl rfl (fun _ _ => by show xe_end q.2.2.2.1 .ireturn [.int 1] M = _; rw [hrt]; rfl) hP
  · rw [if_neg hp] at hP ⊢
    exact xS.ret hl rfl rfl (fun _ _ => by show xe_end q.2.2.2.1 .ireturn [.int 0] M = _; rw [hrt]; rfl) hP
/-- a loop with a state s that keeps I -/
theorem xS.loop {σ : Type} (N : Nat) (lvf : Nat → σ → xL) (Mf : Nat → σ → xM) (I : Nat → σ → Prop) (s0 : σ) {M : xM} (e1 : lv = lvf 0 s0) (e2 : M = Mf 0 s0) (h0 : I 0 s0) (h : ∀ j s, j ≤ N → I j s → (∀ s', j < N → I (j + 1) s' → xS q k pc (lvf (j + 1) s') [] (Mf (j + 1) s') P) → xS q k pc (lvf j s) [] (Mf j s) P) : xS q k pc lv [] M P := by
  have key : ∀ t j s, j + t = N → I j s → xS q k pc (lvf j s) [] (Mf j s) P := by
    intro t
    induction t with
    | zero => intro j s hj hi; exact h j s (by omega) hi (fun s' h1 _ => absurd h1 (by omega))
    | succ t ih => intro j s hj hi; exact h j s (by omega) hi (fun s' _ h2 => ih (j + 1) s' (by omega) h2)
  rw [e1, e2]
  exact key N 0 s0 (by omega) h0
end
section
variable {a b : Int32}
theorem xt_eq (h : xe_holds .eq a b = true) : a = b := of_decide_eq_true h
theorem xt_ne (h : xe_holds .ne a b = true) : ¬ a = b := of_decide_eq_true h
theorem xt_lt (h : xe_holds .lt a b = true) : a < b := of_decide_eq_true h
theorem xt_ge (h : xe_holds .ge a b = true) : b ≤ a := of_decide_eq_true h
theorem xt_gt (h : xe_holds .gt a b = true) : b < a := of_decide_eq_true h
theorem xt_le (h : xe_holds .le a b = true) : a ≤ b := of_decide_eq_true h
theorem xf_eq (h : xe_holds .eq a b = false) : ¬ a = b := of_decide_eq_false h
theorem xf_ne (h : xe_holds .ne a b = false) : a = b := Classical.not_not.mp (of_decide_eq_false h)
theorem xf_lt (h : xe_holds .lt a b = false) : b ≤ a := Int32.not_lt.mp (of_decide_eq_false h)
theorem xf_ge (h : xe_holds .ge a b = false) : a < b := Int32.not_le.mp (of_decide_eq_false h)
theorem xf_gt (h : xe_holds .gt a b = false) : a ≤ b := Int32.not_lt.mp (of_decide_eq_false h)
theorem xf_le (h : xe_holds .le a b = false) : b < a := Int32.not_le.mp (of_decide_eq_false h)
end
def xce (a n : Nat) : Prop := xob a 0 [.ref (a + 1), .int 0] ∧ xar (a + 1) n
def xde (a : Nat) : Prop := xob a 2 [.ref (a + 1), .int 0] ∧ xar (a + 1) 160
def xro (a : Nat) : Prop := xob a 7 [.ref (a + 1), .ref (a + 2), .int 0, .ref (a + 3), .int 0] ∧ xar (a + 1) 6 ∧ xar (a + 2) 6 ∧ xar (a + 3) 16
theorem xce_row : ∀ {r : Nat}, r < 6 → xce (23 + 2 * r) 40
  | 0, _ | 1, _ | 2, _ | 3, _ | 4, _ | 5, _ => ⟨fun _ => rfl, fun _ => rfl, by decide⟩
  | _ + 6, h => absurd h (by omega)
theorem xce_text : ∀ {r : Nat}, r < 4 → xce (35 + 2 * r) 60
  | 0, _ | 1, _ | 2, _ | 3, _ => ⟨fun _ => rfl, fun _ => rfl, by decide⟩
  | _ + 4, h => absurd h (by omega)
theorem xce_trial : xce 15 12 := ⟨fun _ => rfl, fun _ => rfl, by decide⟩
theorem xde_deeds : xde 4 := ⟨fun _ => rfl, fun _ => rfl, by decide⟩
theorem xde_kept : ∀ {r : Nat}, r < 3 → xde (67 + 2 * r)
  | 0, _ | 1, _ | 2, _ => ⟨fun _ => rfl, fun _ => rfl, by decide⟩
  | _ + 3, h => absurd h (by omega)
theorem xro_7 : xro 7 := ⟨fun _ => rfl, ⟨fun _ => rfl, by decide⟩, ⟨fun _ => rfl, by decide⟩, fun _ => rfl, by decide⟩
theorem xro_11 : xro 11 := ⟨fun _ => rfl, ⟨fun _ => rfl, by decide⟩, ⟨fun _ => rfl, by decide⟩, fun _ => rfl, by decide⟩
theorem xsh1_get : ∀ {r : Nat}, r < 6 → xsh_1[r]? = some (.ref (23 + 2 * r))
  | 0, _ | 1, _ | 2, _ | 3, _ | 4, _ | 5, _ => rfl
  | _ + 6, h => absurd h (by omega)
theorem xsh2_get : ∀ {r : Nat}, r < 4 → xsh_2[r]? = some (.ref (35 + 2 * r))
  | 0, _ | 1, _ | 2, _ | 3, _ => rfl
  | _ + 4, h => absurd h (by omega)
theorem xsh6_get : ∀ {r : Nat}, r < 3 → xsh_6[r]? = some (.ref (67 + 2 * r))
  | 0, _ | 1, _ | 2, _ => rfl
  | _ + 3, h => absurd h (by omega)
theorem xsh3_get {r : Nat} (h : r < 24) : xsh_3[r]? = some (.ref (43 + r)) := by
  have : ∀ r : Fin 24, xsh_3[r.val]? = some (.ref (43 + r.val)) := by decide
  exact this ⟨r, h⟩

theorem xar_5 : xar 5 160 := ⟨fun _ => rfl, by decide⟩
theorem xar_8 : xar 8 6 := ⟨fun _ => rfl, by decide⟩
theorem xar_9 : xar 9 6 := ⟨fun _ => rfl, by decide⟩
theorem xar_10 : xar 10 16 := ⟨fun _ => rfl, by decide⟩
theorem xar_12 : xar 12 6 := ⟨fun _ => rfl, by decide⟩
theorem xar_13 : xar 13 6 := ⟨fun _ => rfl, by decide⟩
theorem xar_14 : xar 14 16 := ⟨fun _ => rfl, by decide⟩
theorem xar_16 : xar 16 12 := ⟨fun _ => rfl, by decide⟩
theorem xar_17 : xar 17 6 := ⟨fun _ => rfl, by decide⟩
theorem xar_18 : xar 18 6 := ⟨fun _ => rfl, by decide⟩
theorem xar_20 : xar 20 30 := ⟨fun _ => rfl, by decide⟩
theorem xar_21 : xar 21 30 := ⟨fun _ => rfl, by decide⟩
theorem xar_22 : xar 22 6 := ⟨fun _ => rfl, by decide⟩
theorem xar_24 : xar 24 40 := ⟨fun _ => rfl, by decide⟩
theorem xar_26 : xar 26 40 := ⟨fun _ => rfl, by decide⟩
theorem xar_28 : xar 28 40 := ⟨fun _ => rfl, by decide⟩
theorem xar_30 : xar 30 40 := ⟨fun _ => rfl, by decide⟩
theorem xar_32 : xar 32 40 := ⟨fun _ => rfl, by decide⟩
theorem xar_34 : xar 34 40 := ⟨fun _ => rfl, by decide⟩
theorem xar_36 : xar 36 60 := ⟨fun _ => rfl, by decide⟩
theorem xar_38 : xar 38 60 := ⟨fun _ => rfl, by decide⟩
theorem xar_40 : xar 40 60 := ⟨fun _ => rfl, by decide⟩
theorem xar_42 : xar 42 60 := ⟨fun _ => rfl, by decide⟩
theorem xar_68 : xar 68 160 := ⟨fun _ => rfl, by decide⟩
theorem xar_70 : xar 70 160 := ⟨fun _ => rfl, by decide⟩
theorem xar_72 : xar 72 160 := ⟨fun _ => rfl, by decide⟩
theorem xar_74 : xar 74 6 := ⟨fun _ => rfl, by decide⟩
theorem xar_75 : xar 75 240 := ⟨fun _ => rfl, by decide⟩
theorem xar_76 : xar 76 4 := ⟨fun _ => rfl, by decide⟩
theorem xar_77 : xar 77 240 := ⟨fun _ => rfl, by decide⟩
theorem xar_78 : xar 78 6 := ⟨fun _ => rfl, by decide⟩
theorem xar_79 : xar 79 12 := ⟨fun _ => rfl, by decide⟩
theorem xar_80 : xar 80 16 := ⟨fun _ => rfl, by decide⟩
theorem xar_81 : xar 81 6 := ⟨fun _ => rfl, by decide⟩
theorem xar_82 : xar 82 12 := ⟨fun _ => rfl, by decide⟩
theorem xar_83 : xar 83 16 := ⟨fun _ => rfl, by decide⟩
theorem xar_84 : xar 84 40 := ⟨fun _ => rfl, by decide⟩
theorem xar_85 : xar 85 40 := ⟨fun _ => rfl, by decide⟩
theorem xar_86 : xar 86 3 := ⟨fun _ => rfl, by decide⟩
theorem xar_87 : xar 87 120 := ⟨fun _ => rfl, by decide⟩
theorem xar_88 : xar 88 120 := ⟨fun _ => rfl, by decide⟩
theorem xar_89 : xar 89 6 := ⟨fun _ => rfl, by decide⟩
theorem xar_90 : xar 90 13 := ⟨fun _ => rfl, by decide⟩
theorem xar_91 : xar 91 13 := ⟨fun _ => rfl, by decide⟩
theorem xar_92 : xar 92 13 := ⟨fun _ => rfl, by decide⟩
end
section
/-! LimpMirror$Cells over the fixed cells -/
section
variable {k a c n n2 m t p s d i1 j1 : Nat} {b : Nat × Nat} {g : Nat → Nat → Int32} {l : Nat → Nat → Int64} {i j x y z v w : Int32} {u w1 w2 : Int64}

set_option maxRecDepth 10000 in
theorem c_X0_isMissing (hC : xce a n) : xT (k + 1) 1 [.ref a] (xH b g l) (fun r M' => M' = xH b g l ∧ r = some (.int (if g a 1 = -1 then 1 else 0))) := by
  refine xT.of rfl (Nat.le_of_ble_eq_true rfl) ?_
  dsimp only [lv_args]
  refine xS.s1 rfl rfl ?_
  try dsimp only [Nat.reduceAdd]
  refine xS.gI rfl (hC.1 _) rfl ⟨by decide, rfl⟩ rfl ?_
  try dsimp only [Nat.reduceAdd]
  refine xS.s1 rfl rfl ?_
  try dsimp only [Nat.reduceAdd, xi_m1]
  refine xS.br (c := .ne) (off := 7) (l := 3) rfl rfl (fun h5 => ?_) (fun h5 => ?_)
  · have g5 := xt_ne h5
    refine xS.s1 rfl rfl ?_
    try dsimp only [Nat.reduceAdd, xi_0]
    refine xS.ret rfl rfl rfl (fun _ _ => rfl) ?_
    exact ⟨rfl, by split <;> first | rfl | (exfalso; simp_all)⟩
  · have g5 := xf_ne h5
    refine xS.s1 rfl rfl ?_
    try dsimp only [Nat.reduceAdd, xi_1]
    refine xS.s1 rfl rfl ?_
    try dsimp only [Nat.reduceAdd]
    refine xS.ret rfl rfl rfl (fun _ _ => rfl) ?_
    exact ⟨rfl, by split <;> first | rfl | (exfalso; simp_all)⟩

set_option maxRecDepth 10000 in
theorem c_X0_size (hC : xce a n) : xT (k + 1) 2 [.ref a] (xH b g l) (fun r M' => M' = xH b g l ∧ r = some (.int (g a 1))) := by
  refine xT.of rfl (Nat.le_of_ble_eq_true rfl) ?_
  dsimp only [lv_args]
  refine xS.s1 rfl rfl ?_
  try dsimp only [Nat.reduceAdd]
  refine xS.gI rfl (hC.1 _) rfl ⟨by decide, rfl⟩ rfl ?_
  try dsimp only [Nat.reduceAdd]
  refine xS.ret rfl rfl rfl (fun _ _ => rfl) ?_
  exact ⟨rfl, rfl⟩

set_option maxRecDepth 10000 in
theorem c_X0_has (hC : xce a n) : xT (k + 1) 3 [.ref a, .int i] (xH b g l) (fun r M' => M' = xH b g l ∧ r = some (.int (if 0 ≤ i ∧ i < g a 1 ∧ i < nI n then 1 else 0))) := by
  refine xT.of rfl (Nat.le_of_ble_eq_true rfl) ?_
  dsimp only [lv_args]
  refine xS.s1 rfl rfl ?_
  try dsimp only [Nat.reduceAdd]
  refine xS.br0 (c := .lt) (off := 24) (l := 3) rfl rfl (fun h1 => ?_) (fun h1 => ?_)
  · have g1 := xt_lt h1
    refine xS.s1 rfl rfl ?_
    try dsimp only [Nat.reduceAdd, xi_0]
    refine xS.ret rfl rfl rfl (fun _ _ => rfl) ?_
    exact ⟨rfl, by split <;> first | rfl | (exfalso; simp only [Int32.le_iff_toInt_le, Int32.lt_iff_toInt_lt, Int32.reduceToInt] at *; omega)⟩
  · have g1 := xf_lt h1
    refine xS.s1 rfl rfl ?_
    try dsimp only [Nat.reduceAdd]
    refine xS.s1 rfl rfl ?_
    try dsimp only [Nat.reduceAdd]
    refine xS.gI rfl (hC.1 _) rfl ⟨by decide, rfl⟩ rfl ?_
    try dsimp only [Nat.reduceAdd]
    refine xS.br (c := .ge) (off := 16) (l := 3) rfl rfl (fun h9 => ?_) (fun h9 => ?_)
    · have g9 := xt_ge h9
      refine xS.s1 rfl rfl ?_
      try dsimp only [Nat.reduceAdd, xi_0]
      refine xS.ret rfl rfl rfl (fun _ _ => rfl) ?_
      exact ⟨rfl, by split <;> first | rfl | (exfalso; simp only [Int32.le_iff_toInt_le, Int32.lt_iff_toInt_lt, Int32.reduceToInt] at *; omega)⟩
    · have g9 := xf_ge h9
      refine xS.s1 rfl rfl ?_
      try dsimp only [Nat.reduceAdd]
      refine xS.s1 rfl rfl ?_
      try dsimp only [Nat.reduceAdd]
      refine xS.gR rfl (hC.1 _) rfl ⟨by decide, rfl⟩ rfl ?_
      try dsimp only [Nat.reduceAdd]
      refine xS.al rfl hC.2 ?_
      try dsimp only [Nat.reduceAdd]
      refine xS.br (c := .ge) (off := 7) (l := 3) rfl rfl (fun h18 => ?_) (fun h18 => ?_)
      · have g18 := xt_ge h18
        refine xS.s1 rfl rfl ?_
        try dsimp only [Nat.reduceAdd, xi_0]
        refine xS.ret rfl rfl rfl (fun _ _ => rfl) ?_
        exact ⟨rfl, by split <;> first | rfl | (exfalso; simp only [Int32.le_iff_toInt_le, Int32.lt_iff_toInt_lt, Int32.reduceToInt] at *; omega)⟩
      · have g18 := xf_ge h18
        refine xS.s1 rfl rfl ?_
        try dsimp only [Nat.reduceAdd, xi_1]
        refine xS.s1 rfl rfl ?_
        try dsimp only [Nat.reduceAdd]
        refine xS.ret rfl rfl rfl (fun _ _ => rfl) ?_
        exact ⟨rfl, by split <;> first | rfl | (exfalso; simp only [Int32.le_iff_toInt_le, Int32.lt_iff_toInt_lt, Int32.reduceToInt] at *; omega)⟩

set_option maxRecDepth 10000 in
theorem c_X0_hasPlaces (hC : xce a n) : xT (k + 1) 4 [.ref a, .int i, .int x] (xH b g l) (fun r M' => M' = xH b g l ∧ r = some (.int (if 0 ≤ i ∧ i ≤ g a 1 ∧ x ≤ g a 1 - i then 1 else 0))) := by
  refine xT.of rfl (Nat.le_of_ble_eq_true rfl) ?_
  dsimp only [lv_args]
  refine xS.s1 rfl rfl ?_
  try dsimp only [Nat.reduceAdd]
  refine xS.br0 (c := .lt) (off := 25) (l := 3) rfl rfl (fun h1 => ?_) (fun h1 => ?_)
  · have g1 := xt_lt h1
    refine xS.s1 rfl rfl ?_
    try dsimp only [Nat.reduceAdd, xi_0]
    refine xS.ret rfl rfl rfl (fun _ _ => rfl) ?_
    exact ⟨rfl, by split <;> first | rfl | (exfalso; simp only [Int32.le_iff_toInt_le, Int32.lt_iff_toInt_lt, Int32.reduceToInt] at *; omega)⟩
  · have g1 := xf_lt h1
    refine xS.s1 rfl rfl ?_
    try dsimp only [Nat.reduceAdd]
    refine xS.s1 rfl rfl ?_
    try dsimp only [Nat.reduceAdd]
    refine xS.gI rfl (hC.1 _) rfl ⟨by decide, rfl⟩ rfl ?_
    try dsimp only [Nat.reduceAdd]
    refine xS.br (c := .gt) (off := 17) (l := 3) rfl rfl (fun h9 => ?_) (fun h9 => ?_)
    · have g9 := xt_gt h9
      refine xS.s1 rfl rfl ?_
      try dsimp only [Nat.reduceAdd, xi_0]
      refine xS.ret rfl rfl rfl (fun _ _ => rfl) ?_
      exact ⟨rfl, by split <;> first | rfl | (exfalso; simp only [Int32.le_iff_toInt_le, Int32.lt_iff_toInt_lt, Int32.reduceToInt] at *; omega)⟩
    · have g9 := xf_gt h9
      refine xS.s1 rfl rfl ?_
      try dsimp only [Nat.reduceAdd]
      refine xS.s1 rfl rfl ?_
      try dsimp only [Nat.reduceAdd]
      refine xS.gI rfl (hC.1 _) rfl ⟨by decide, rfl⟩ rfl ?_
      try dsimp only [Nat.reduceAdd]
      refine xS.s1 rfl rfl ?_
      try dsimp only [Nat.reduceAdd]
      refine xS.s1 rfl rfl ?_
      try dsimp only [Nat.reduceAdd]
      refine xS.br (c := .gt) (off := 7) (l := 3) rfl rfl (fun h19 => ?_) (fun h19 => ?_)
      · have g19 := xt_gt h19
        refine xS.s1 rfl rfl ?_
        try dsimp only [Nat.reduceAdd, xi_0]
        refine xS.ret rfl rfl rfl (fun _ _ => rfl) ?_
        exact ⟨rfl, by split <;> first | rfl | (exfalso; simp only [Int32.le_iff_toInt_le, Int32.lt_iff_toInt_lt, Int32.reduceToInt] at *; omega)⟩
      · have g19 := xf_gt h19
        refine xS.s1 rfl rfl ?_
        try dsimp only [Nat.reduceAdd, xi_1]
        refine xS.s1 rfl rfl ?_
        try dsimp only [Nat.reduceAdd]
        refine xS.ret rfl rfl rfl (fun _ _ => rfl) ?_
        exact ⟨rfl, by split <;> first | rfl | (exfalso; simp only [Int32.le_iff_toInt_le, Int32.lt_iff_toInt_lt, Int32.reduceToInt] at *; omega)⟩

set_option maxRecDepth 10000 in
theorem c_X0_drop (hC : xce a n) : xT (k + 1) 8 [.ref a] (xH b g l) (fun r M' => M' = xH b (up g a 1 (-1)) l ∧ r = none) := by
  refine xT.of rfl (Nat.le_of_ble_eq_true rfl) ?_
  dsimp only [lv_args]
  refine xS.s1 rfl rfl ?_
  try dsimp only [Nat.reduceAdd]
  refine xS.s1 rfl rfl ?_
  try dsimp only [Nat.reduceAdd, xi_m1]
  refine xS.pI rfl (hC.1 _) rfl ⟨⟨by decide, rfl⟩, rfl, by decide, by decide⟩ rfl ?_
  try dsimp only [Nat.reduceAdd]
  refine xS.ret rfl rfl rfl (fun _ _ => rfl) ?_
  exact ⟨rfl, rfl⟩

theorem xn31 {a n : Nat} (h : xar a n) : n < 2 ^ 31 := by have := h.2; omega
theorem c_X0_has_in (hC : xce a n) (hs : g a 1 = nI m) (hm : m ≤ n) (ht : t < m) : xT (k + 1) 3 [.ref a, .int (nI t)] (xH b g l) (fun r M' => M' = xH b g l ∧ r = some (.int 1)) := by
  have hn := xn31 hC.2
  refine (c_X0_has hC).weak (fun r M' h => ⟨h.1, ?_⟩)
  rw [h.2, if_pos ⟨nI_pos' (by omega), by rw [hs]; exact nI_lt ht (by omega), nI_lt (by omega) (by omega)⟩]

set_option maxRecDepth 10000 in
theorem c_X0_get (hC : xce a n) (hs : g a 1 = nI m) (hm : m ≤ n) (ht : t < m) : xT (k + 2) 5 [.ref a, .int (nI t)] (xH b g l) (fun r M' => M' = xH b g l ∧ r = some (.int (g (a + 1) t))) := by
  refine xT.of rfl (Nat.le_of_ble_eq_true rfl) ?_
  dsimp only [lv_args]
  refine xS.s1 rfl rfl ?_
  try dsimp only [Nat.reduceAdd]
  refine xS.s1 rfl rfl ?_
  try dsimp only [Nat.reduceAdd]
  -- 2 yX0_has
  refine xS.cv rfl rfl rfl (hC.1 _) rfl rfl ⟨by decide, rfl, rfl⟩ (c_X0_has_in hC hs hm ht) (fun v M1 hv => ?_)
  rw [hv.1, hv.2]
  clear hv M1 v
  try dsimp only [Nat.reduceAdd, Option.toList, List.cons_append, List.nil_append, List.drop]
  refine xS.br0 (c := .eq) (off := 12) (l := 3) rfl rfl (fun h5 => ?_) (fun h5 => ?_)
  · have g5 := xt_eq h5
    exact absurd g5 (by decide)
  · have g5 := xf_eq h5
    refine xS.s1 rfl rfl ?_
    try dsimp only [Nat.reduceAdd]
    refine xS.gR rfl (hC.1 _) rfl ⟨by decide, rfl⟩ rfl ?_
    try dsimp only [Nat.reduceAdd]
    refine xS.s1 rfl rfl ?_
    try dsimp only [Nat.reduceAdd]
    refine xS.ia rfl hC.2 (by omega) ?_
    try dsimp only [Nat.reduceAdd]
    refine xS.s1 rfl rfl ?_
    try dsimp only [Nat.reduceAdd]
    refine xS.ret rfl rfl rfl (fun _ _ => rfl) ?_
    exact ⟨rfl, rfl⟩

set_option maxRecDepth 10000 in
theorem c_X0_set (hC : xce a n) (hs : g a 1 = nI m) (hm : m ≤ n) (ht : t < m) : xT (k + 2) 6 [.ref a, .int (nI t), .int x] (xH b g l) (fun r M' => M' = xH b (up g (a + 1) t x) l ∧ r = none) := by
  refine xT.of rfl (Nat.le_of_ble_eq_true rfl) ?_
  dsimp only [lv_args]
  refine xS.s1 rfl rfl ?_
  try dsimp only [Nat.reduceAdd]
  refine xS.s1 rfl rfl ?_
  try dsimp only [Nat.reduceAdd]
  -- 2 yX0_has
  refine xS.cv rfl rfl rfl (hC.1 _) rfl rfl ⟨by decide, rfl, rfl⟩ (c_X0_has_in hC hs hm ht) (fun v M1 hv => ?_)
  rw [hv.1, hv.2]
  clear hv M1 v
  try dsimp only [Nat.reduceAdd, Option.toList, List.cons_append, List.nil_append, List.drop]
  refine xS.br0 (c := .eq) (off := 10) (l := 3) rfl rfl (fun h5 => ?_) (fun h5 => ?_)
  · have g5 := xt_eq h5
    exact absurd g5 (by decide)
  · have g5 := xf_eq h5
    refine xS.s1 rfl rfl ?_
    try dsimp only [Nat.reduceAdd]
    refine xS.gR rfl (hC.1 _) rfl ⟨by decide, rfl⟩ rfl ?_
    try dsimp only [Nat.reduceAdd]
    refine xS.s1 rfl rfl ?_
    try dsimp only [Nat.reduceAdd]
    refine xS.s1 rfl rfl ?_
    try dsimp only [Nat.reduceAdd]
    refine xS.ias rfl hC.2 (by omega) ?_
    try dsimp only [Nat.reduceAdd]
    refine xS.ret rfl rfl rfl (fun _ _ => rfl) ?_
    exact ⟨rfl, rfl⟩

set_option maxRecDepth 10000 in
theorem c_X0_stepAt (hC : xce a n) (hs : g a 1 = nI m) (hm : m ≤ n) (ht : t < m) : xT (k + 3) 11 [.ref a, .int (nI t)] (xH b g l) (fun r M' => M' = xH b g l ∧ r = some (.int (g (a + 1) t))) := by
  refine xT.of rfl (Nat.le_of_ble_eq_true rfl) ?_
  dsimp only [lv_args]
  refine xS.s1 rfl rfl ?_
  try dsimp only [Nat.reduceAdd]
  refine xS.s1 rfl rfl ?_
  try dsimp only [Nat.reduceAdd]
  -- 2 yX0_get
  refine xS.cv rfl rfl rfl (hC.1 _) rfl rfl ⟨by decide, rfl, rfl⟩ (c_X0_get hC hs hm ht) (fun v M1 hv => ?_)
  rw [hv.1, hv.2]
  clear hv M1 v
  try dsimp only [Nat.reduceAdd, Option.toList, List.cons_append, List.nil_append, List.drop]
  refine xS.ret rfl rfl rfl (fun _ _ => rfl) ?_
  exact ⟨rfl, rfl⟩

def gfill (g : Nat → Nat → Int32) (a m : Nat) (v : Int32) : Nat → Nat → Int32 := fun a' i' => if a' = a ∧ i' < m then v else g a' i'
theorem gfill_0 (g : Nat → Nat → Int32) (a : Nat) (v : Int32) : gfill g a 0 v = g := by
  funext a' i'
  exact if_neg (fun h => absurd h.2 (by omega))
theorem gfill_s (g : Nat → Nat → Int32) (a j : Nat) (v : Int32) : up (gfill g a j v) a j v = gfill g a (j + 1) v := by
  funext a' i'
  unfold up gfill
  by_cases h : a' = a
  · by_cases h1 : i' = j
    · simp [h, h1]
    · by_cases h2 : i' < j
      · simp [h, h1, h2, Nat.lt_succ_of_lt h2]
      · have : ¬ i' < j + 1 := by omega
        simp [h1, h2, this]
  · simp [h]
theorem gfill_na {g : Nat → Nat → Int32} {a m a' : Nat} {v : Int32} (h : a' ≠ a) : gfill g a m v a' = g a' := funext (fun _ => if_neg (fun z => h z.1))
theorem gfill_in {g : Nat → Nat → Int32} {a m i : Nat} {v : Int32} (h : i < m) : gfill g a m v a i = v := if_pos ⟨rfl, h⟩
def gcopy (g : Nat → Nat → Int32) (sa si da di m : Nat) : Nat → Nat → Int32 := fun a' i' => if a' = da ∧ di ≤ i' ∧ i' < di + m then g sa (si + (i' - di)) else g a' i'
theorem gcopy_na {g : Nat → Nat → Int32} {sa si da di m a' : Nat} (h : a' ≠ da) : gcopy g sa si da di m a' = g a' := funext (fun _ => if_neg (fun z => h z.1))
theorem gcopy_in {g : Nat → Nat → Int32} {sa si da di m i : Nat} (h : i < m) : gcopy g sa si da di m da (di + i) = g sa (si + i) := by
  unfold gcopy
  rw [if_pos ⟨rfl, by omega, by omega⟩]
  congr 1
  omega
theorem gcopy_0 {g : Nat → Nat → Int32} {sa si da di : Nat} : gcopy g sa si da di 0 = g := by
  funext a' i'
  exact if_neg (fun h => absurd h.2 (by omega))
theorem xnlt {a b : Nat} (h : nI a < nI b) (ha : a < 2 ^ 31) (hb : b < 2 ^ 31) : a < b := (nI_ltI ha hb).mp h
theorem xnle {a b : Nat} (h : nI b ≤ nI a) (ha : a < 2 ^ 31) (hb : b < 2 ^ 31) : b ≤ a := (nI_leI hb ha).mp h

theorem xmax0 {m : Nat} (h : m < 2 ^ 31) : (if 0 < nI m then nI m else 0) = nI m := by
  cases m with
  | zero => exact ite_self _
  | succ m => exact if_pos (nI_lt (a := 0) (b := m + 1) (by omega) h)

set_option maxRecDepth 10000 in
theorem c_X0_open (hC : xce a n) (hm : m ≤ n) : xT (k + 1) 7 [.ref a, .int (nI m), .int v] (xH b g l) (fun r M' => M' = xH b (gfill (up g a 1 (nI m)) (a + 1) m v) l ∧ r = none) := by
  refine xT.of rfl (Nat.le_of_ble_eq_true rfl) ?_
  dsimp only [lv_args]
  refine xS.s1 rfl rfl ?_
  try dsimp only [Nat.reduceAdd]
  refine xS.s1 rfl rfl ?_
  try dsimp only [Nat.reduceAdd, xi_0]
  refine xS.s1 rfl rfl ?_
  try dsimp only [Nat.reduceAdd]
  refine xS.s1 rfl rfl ?_
  try dsimp only [Nat.reduceAdd]
  refine xS.gR rfl (hC.1 _) rfl ⟨by decide, rfl⟩ rfl ?_
  try dsimp only [Nat.reduceAdd]
  refine xS.al rfl hC.2 ?_
  try dsimp only [Nat.reduceAdd]
  refine xS.s3 (pc' := 11) (M1 := xH b g l) (st' := [.int (if nI n < nI m then nI n else nI m), .int 0, .ref a]) rfl rfl rfl (fun _ _ => rfl) ?_
  rw [if_neg (nI_nlt hm (xn31 hC.2))]
  refine xS.s3 (pc' := 14) (M1 := xH b g l) (st' := [.int (if 0 < nI m then nI m else 0), .ref a]) rfl rfl rfl (fun _ _ => rfl) ?_
  rw [show (if 0 < nI m then nI m else 0) = nI m from xmax0 (by have := xn31 hC.2; omega)]
  refine xS.pI rfl (hC.1 _) rfl ⟨⟨by decide, rfl⟩, rfl, by decide, by decide⟩ rfl ?_
  try dsimp only [Nat.reduceAdd]
  refine xS.s1 rfl rfl ?_
  try dsimp only [Nat.reduceAdd, xi_0]
  refine xS.s1 rfl rfl ?_
  try dsimp only [Nat.reduceAdd]
  refine xS.pick [0, 1, 3] rfl ?_
  refine xS.loop (σ := Unit) (m) (fun j S => [(3, .int (nI j)), (0, .ref a), (2, .int v)]) (fun j _ => xH b (gfill (up g a 1 (nI m)) (a + 1) j v) l) (fun _ _ => True) (()) (rfl) (by rw [gfill_0]) (trivial) ?_
  intro j S hj hI ih
  try dsimp only
  have hn := xn31 hC.2
  have hsz : gfill (up g a 1 (nI m)) (a + 1) j v a 1 = nI m := by rw [gfill_na (by omega), up_same]
  refine xS.s1 rfl rfl ?_
  try dsimp only [Nat.reduceAdd]
  refine xS.s1 rfl rfl ?_
  try dsimp only [Nat.reduceAdd]
  refine xS.gI rfl (hC.1 _) rfl ⟨by decide, rfl⟩ rfl ?_
  try dsimp only [Nat.reduceAdd]
  refine xS.br (c := .ge) (off := 16) (l := 3) rfl rfl (fun h24 => ?_) (fun h24 => ?_)
  · have g24 := xt_ge h24
    rw [hsz] at g24
    refine xS.ret rfl rfl rfl (fun _ _ => rfl) ?_
    have e := xnle g24 (by omega) (by omega)
    rw [show j = m by omega]
    exact ⟨rfl, rfl⟩
  · have g24 := xf_ge h24
    rw [hsz] at g24
    have hlt := xnlt g24 (by omega) (by omega)
    refine xS.s1 rfl rfl ?_
    try dsimp only [Nat.reduceAdd]
    refine xS.gR rfl (hC.1 _) rfl ⟨by decide, rfl⟩ rfl ?_
    try dsimp only [Nat.reduceAdd]
    refine xS.s1 rfl rfl ?_
    try dsimp only [Nat.reduceAdd]
    refine xS.s1 rfl rfl ?_
    try dsimp only [Nat.reduceAdd]
    refine xS.ias rfl hC.2 (by omega) ?_
    try dsimp only [Nat.reduceAdd]
    refine xS.s1 rfl rfl ?_
    try dsimp only [Nat.reduceAdd, xi_1]
    rw [nI_1]
    refine xS.s1 rfl rfl ?_
    try dsimp only [Nat.reduceAdd]
    refine xS.pick [0, 1, 2] rfl ?_
    rw [gfill_s]
    exact ih () (by omega) trivial

end
end
section
/-! copies; LimpMirror$Cells take, takeAll; LimpMirror$Deeds -/
section
variable {q : xQ} {k pc l0 sa da sj dj m idx : Nat} {lv : xL} {rest : List Value} {P : Option Value → xM → Prop} {vs ws : List Value} {M : xM}
theorem xS.acpG {idx' x1 : Nat} {x2 : List (Nat × Nat)} (hl : xe_lkF q.1 pc = some (.invokestatic idx, l0)) (hx : xcF q.2.1 idx = some (idx', 8, x1, x2)) (hs : M[sa]? = some (12, vs)) (hd : M[da]? = some (12, ws)) (h1 : sj + m ≤ vs.length) (h2 : dj + m ≤ ws.length) (hb : sj + m < 2 ^ 31) (hb2 : dj + m < 2 ^ 31) (hr : xe_sum rest = true) (h : xS q k (pc + 3) lv rest (M.set da (12, xcpy vs ws sj dj m)) P) : xS q k pc lv (.int (nI m) :: .int (nI dj) :: .ref da :: .int (nI sj) :: .ref sa :: rest) M P := by
  refine xS.s3 (pc' := pc + 3) (st' := rest) (M1 := M.set da (12, xcpy vs ws sj dj m)) hl rfl rfl (fun c ih => ?_) h
  show xe_callS c q.2.1 idx pc lv _ M ih = _
  unfold xe_callS
  simp only [hx]
  unfold xe_copy
  have e1 : ∀ z, z < 2 ^ 31 → ¬ xlt (nI z) 0 = true := fun z hz => by rw [xlt_iff]; exact nI_pos hz
  simp only [xg_eq, xse_eq, xln_eq, hs, hd]
  rw [nI_clamp (n := m) (by omega), nI_clamp (n := sj) (by omega), nI_clamp (n := dj) (by omega)]
  rw [if_pos ⟨⟨trivial, trivial⟩, ⟨e1 _ (by omega), e1 _ (by omega), e1 _ (by omega)⟩, ⟨h1, h2⟩, hr⟩]
end
section
variable {b : Nat × Nat} {g : Nat → Nat → Int32} {l : Nat → Nat → Int64} {sa da sj dj m n1 n2 : Nat}
theorem xH_cp (hs : xar sa n1) (hd : xar da n2) (h1 : sj + m ≤ n1) (h2 : dj + m ≤ n2) : (xH b g l).set da (12, xcpy ((List.replicate n1 (Value.int 0)).mapIdx (xfi g l sa)) ((List.replicate n2 (Value.int 0)).mapIdx (xfi g l da)) sj dj m) = xH b (gcopy g sa sj da dj m) l := by
  apply List.ext_getElem?
  intro a'
  by_cases e : da = a'
  · subst e
    have hlt : da < (xH b g l).length := (List.getElem?_eq_some_iff.mp (xH_get (g := g) (l := l) (hd.1 b))).1
    rw [List.getElem?_set_self hlt, xH_get (g := gcopy g sa sj da dj m) (l := l) (hd.1 b)]
    congr 2
    apply List.ext_getElem?
    intro j
    rw [xcpy_get (by rw [List.length_mapIdx, List.length_replicate]; exact h1) (by rw [List.length_mapIdx, List.length_replicate]; exact h2)]
    simp only [List.getElem?_mapIdx, List.getElem?_replicate]
    by_cases c : dj ≤ j ∧ j < dj + m
    · rw [if_pos c, if_pos (by omega), if_pos (by omega)]
      show some (Value.int (g sa (sj + (j - dj)))) = some (Value.int (gcopy g sa sj da dj m da j))
      unfold gcopy
      rw [if_pos ⟨rfl, c⟩]
    · rw [if_neg c]
      by_cases c2 : j < n2
      · rw [if_pos c2]
        show some (Value.int (g da j)) = some (Value.int (gcopy g sa sj da dj m da j))
        unfold gcopy
        rw [if_neg (fun z => c z.2)]
      · rw [if_neg c2]
        rfl
  · rw [List.getElem?_set_ne e]
    rw [xH_eq, xH_eq, List.getElem?_mapIdx, List.getElem?_mapIdx]
    cases hc : (xsh b)[a']? with
    | none => rfl
    | some c =>
      have e1 : xfi (gcopy g sa sj da dj m) l a' = xfi g l a' := by
        funext j w
        unfold xfi
        rw [gcopy_na (Ne.symm e)]
      simp [e1]
end
section
variable {q : xQ} {k pc l0 sa da sj dj m idx n1 n2 : Nat} {lv : xL} {rest : List Value} {P : Option Value → xM → Prop} {b : Nat × Nat} {g : Nat → Nat → Int32} {l : Nat → Nat → Int64}
theorem xS.acp {idx' x1 : Nat} {x2 : List (Nat × Nat)} (hl : xe_lkF q.1 pc = some (.invokestatic idx, l0)) (hx : xcF q.2.1 idx = some (idx', 8, x1, x2)) (hs : xar sa n1) (hd : xar da n2) (h1 : sj + m ≤ n1) (h2 : dj + m ≤ n2) (hr : xe_sum rest = true) (h : xS q k (pc + 3) lv rest (xH b (gcopy g sa sj da dj m) l) P) : xS q k pc lv (.int (nI m) :: .int (nI dj) :: .ref da :: .int (nI sj) :: .ref sa :: rest) (xH b g l) P :=
  xS.acpG hl hx (xH_get (hs.1 b)) (xH_get (hd.1 b)) (by rw [List.length_mapIdx, List.length_replicate]; exact h1) (by rw [List.length_mapIdx, List.length_replicate]; exact h2) (by have := hs.2; omega) (by have := hd.2; omega) hr (by rw [xH_cp hs hd h1 h2]; exact h)
end
theorem up_id {α : Type} {g : Nat → Nat → α} {a i : Nat} {v : α} (h : g a i = v) : up g a i v = g := by
  funext a' i'
  unfold up
  by_cases e : a' = a ∧ i' = i
  · rw [if_pos e, e.1, e.2, h]
  · rw [if_neg e]

theorem xn0 {m : Nat} (h : nI m ≤ 0) (hm : m < 2 ^ 31) : m = 0 := by
  have := (nI_leI (a := m) (b := 0) hm (by omega)).mp h
  omega

section
variable {k a c n n2 m t p s d i1 j1 : Nat} {b : Nat × Nat} {g : Nat → Nat → Int32} {l : Nat → Nat → Int64} {i j x y z v w : Int32} {u w1 w2 : Int64}

theorem c_X0_hasPlaces_in (hC : xce a n) (hs : g a 1 = nI m) (hm : m ≤ n) (ht : i1 + t ≤ m) : xT (k + 1) 4 [.ref a, .int (nI i1), .int (nI t)] (xH b g l) (fun r M' => M' = xH b g l ∧ r = some (.int 1)) := by
  have hn := xn31 hC.2
  refine (c_X0_hasPlaces hC).weak (fun r M' h => ⟨h.1, ?_⟩)
  rw [h.2, if_pos ⟨nI_pos' (by omega), by rw [hs]; exact nI_le (by omega) (by omega), by rw [hs, pk_sub (by omega)]; exact nI_le (by omega) (by omega)⟩]

set_option maxRecDepth 10000 in
theorem c_X0_take (hC : xce a n) (hF : xce c n2) (hs : g c 1 = nI s) (hs2 : g a 1 = nI d) (hm : s ≤ n2) (hm2 : d ≤ n) (q1 : i1 + m ≤ s) (q2 : j1 + m ≤ d) : xT (k + 2) 9 [.ref a, .ref c, .int (nI i1), .int (nI j1), .int (nI m)] (xH b g l) (fun r M' => M' = xH b (gcopy g (c + 1) i1 (a + 1) j1 m) l ∧ r = none) := by
  refine xT.of rfl (Nat.le_of_ble_eq_true rfl) ?_
  dsimp only [lv_args]
  refine xS.s1 rfl rfl ?_
  try dsimp only [Nat.reduceAdd]
  refine xS.br0 (c := .le) (off := 38) (l := 3) rfl rfl (fun h2 => ?_) (fun h2 => ?_)
  · have g2 := xt_le h2
    refine xS.ret rfl rfl rfl (fun _ _ => rfl) ?_
    exact ⟨by rw [show m = 0 from xn0 g2 (by have := xn31 hC.2; omega), gcopy_0], rfl⟩
  · have g2 := xf_le h2
    refine xS.s1 rfl rfl ?_
    try dsimp only [Nat.reduceAdd]
    refine xS.s1 rfl rfl ?_
    try dsimp only [Nat.reduceAdd]
    refine xS.s1 rfl rfl ?_
    try dsimp only [Nat.reduceAdd]
    -- 9 yX0_hasPlaces
    refine xS.cv rfl rfl rfl (hF.1 _) rfl rfl ⟨by decide, rfl, rfl⟩ (c_X0_hasPlaces_in hF hs hm q1) (fun v M1 hv => ?_)
    rw [hv.1, hv.2]
    clear hv M1 v
    try dsimp only [Nat.reduceAdd, Option.toList, List.cons_append, List.nil_append, List.drop]
    refine xS.br0 (c := .eq) (off := 28) (l := 3) rfl rfl (fun h12 => ?_) (fun h12 => ?_)
    · have g12 := xt_eq h12
      exact absurd g12 (by decide)
    · have g12 := xf_eq h12
      refine xS.s1 rfl rfl ?_
      try dsimp only [Nat.reduceAdd]
      refine xS.s1 rfl rfl ?_
      try dsimp only [Nat.reduceAdd]
      refine xS.s1 rfl rfl ?_
      try dsimp only [Nat.reduceAdd]
      -- 19 yX0_hasPlaces
      refine xS.cv rfl rfl rfl (hC.1 _) rfl rfl ⟨by decide, rfl, rfl⟩ (c_X0_hasPlaces_in hC hs2 hm2 q2) (fun v M1 hv => ?_)
      rw [hv.1, hv.2]
      clear hv M1 v
      try dsimp only [Nat.reduceAdd, Option.toList, List.cons_append, List.nil_append, List.drop]
      refine xS.br0 (c := .eq) (off := 18) (l := 3) rfl rfl (fun h22 => ?_) (fun h22 => ?_)
      · have g22 := xt_eq h22
        exact absurd g22 (by decide)
      · have g22 := xf_eq h22
        refine xS.s1 rfl rfl ?_
        try dsimp only [Nat.reduceAdd]
        refine xS.gR rfl (hF.1 _) rfl ⟨by decide, rfl⟩ rfl ?_
        try dsimp only [Nat.reduceAdd]
        refine xS.s1 rfl rfl ?_
        try dsimp only [Nat.reduceAdd]
        refine xS.s1 rfl rfl ?_
        try dsimp only [Nat.reduceAdd]
        refine xS.gR rfl (hC.1 _) rfl ⟨by decide, rfl⟩ rfl ?_
        try dsimp only [Nat.reduceAdd]
        refine xS.s1 rfl rfl ?_
        try dsimp only [Nat.reduceAdd]
        refine xS.s1 rfl rfl ?_
        try dsimp only [Nat.reduceAdd]
        refine xS.acp rfl rfl hF.2 hC.2 (by omega) (by omega) rfl ?_
        try dsimp only [Nat.reduceAdd]
        refine xS.ret rfl rfl rfl (fun _ _ => rfl) ?_
        exact ⟨rfl, rfl⟩

theorem gcopy_fill {g : Nat → Nat → Int32} {sa da m : Nat} {v : Int32} (h : sa ≠ da) : gcopy (gfill g da m v) sa 0 da 0 m = gcopy g sa 0 da 0 m := by
  funext a' i'
  unfold gcopy
  rw [gfill_na h]
  by_cases c : a' = da ∧ 0 ≤ i' ∧ i' < 0 + m
  · rw [if_pos c, if_pos c]
  · rw [if_neg c, if_neg c]
    exact if_neg (fun z => c ⟨z.1, by omega, by omega⟩)

set_option maxRecDepth 10000 in
theorem c_X0_takeAll (hC : xce a n) (hF : xce c n2) (hs : g c 1 = nI m) (hm : m ≤ n) (hm2 : m ≤ n2) (hac : c ≠ a) (hac1 : c + 1 ≠ a) (hac2 : c ≠ a + 1) : xT (k + 3) 10 [.ref a, .ref c] (xH b g l) (fun r M' => M' = xH b (gcopy (up g a 1 (nI m)) (c + 1) 0 (a + 1) 0 m) l ∧ r = none) := by
  refine xT.of rfl (Nat.le_of_ble_eq_true rfl) ?_
  dsimp only [lv_args]
  refine xS.s1 rfl rfl ?_
  try dsimp only [Nat.reduceAdd]
  refine xS.s1 rfl rfl ?_
  try dsimp only [Nat.reduceAdd]
  refine xS.gI rfl (hF.1 _) rfl ⟨by decide, rfl⟩ rfl ?_
  try dsimp only [Nat.reduceAdd]
  rw [hs]
  refine xS.s1 rfl rfl ?_
  try dsimp only [Nat.reduceAdd, xi_0]
  -- 6 yX0_open
  refine xS.cv rfl rfl rfl (hC.1 _) rfl rfl ⟨by decide, rfl, rfl⟩ (c_X0_open hC hm) (fun v M1 hv => ?_)
  rw [hv.1, hv.2]
  clear hv M1 v
  try dsimp only [Nat.reduceAdd, Option.toList, List.cons_append, List.nil_append, List.drop]
  refine xS.s1 rfl rfl ?_
  try dsimp only [Nat.reduceAdd]
  refine xS.s1 rfl rfl ?_
  try dsimp only [Nat.reduceAdd]
  refine xS.s1 rfl rfl ?_
  try dsimp only [Nat.reduceAdd, xi_0]
  refine xS.s1 rfl rfl ?_
  try dsimp only [Nat.reduceAdd, xi_0]
  refine xS.s1 rfl rfl ?_
  try dsimp only [Nat.reduceAdd]
  refine xS.gI rfl (hC.1 _) rfl ⟨by decide, rfl⟩ rfl ?_
  try dsimp only [Nat.reduceAdd]
  rw [show gfill (up g a 1 (nI m)) (a + 1) m 0 a 1 = nI m from by rw [gfill_na (by omega), up_same]]
  -- 17 yX0_take
  refine xS.cv rfl rfl rfl (hC.1 _) rfl rfl ⟨by decide, rfl, rfl⟩ (c_X0_take (i1 := 0) (j1 := 0) hC hF (show _ = nI m by rw [gfill_na hac2, up_ne (Or.inl hac), hs]) (show _ = nI m by rw [gfill_na (by omega), up_same]) hm2 hm (by omega) (by omega)) (fun v M1 hv => ?_)
  rw [hv.1, hv.2]
  clear hv M1 v
  try dsimp only [Nat.reduceAdd, Option.toList, List.cons_append, List.nil_append, List.drop]
  refine xS.ret rfl rfl rfl (fun _ _ => rfl) ?_
  exact ⟨by rw [gcopy_fill (by omega)], rfl⟩

set_option maxRecDepth 10000 in
theorem c_X2_size (hC : xde a) : xT (k + 1) 23 [.ref a] (xH b g l) (fun r M' => M' = xH b g l ∧ r = some (.int (g a 1))) := by
  refine xT.of rfl (Nat.le_of_ble_eq_true rfl) ?_
  dsimp only [lv_args]
  refine xS.s1 rfl rfl ?_
  try dsimp only [Nat.reduceAdd]
  refine xS.gI rfl (hC.1 _) rfl ⟨by decide, rfl⟩ rfl ?_
  try dsimp only [Nat.reduceAdd]
  refine xS.ret rfl rfl rfl (fun _ _ => rfl) ?_
  exact ⟨rfl, rfl⟩

set_option maxRecDepth 10000 in
theorem c_X2_isMissing (hC : xde a) : xT (k + 1) 24 [.ref a] (xH b g l) (fun r M' => M' = xH b g l ∧ r = some (.int (if g a 1 = -1 then 1 else 0))) := by
  refine xT.of rfl (Nat.le_of_ble_eq_true rfl) ?_
  dsimp only [lv_args]
  refine xS.s1 rfl rfl ?_
  try dsimp only [Nat.reduceAdd]
  refine xS.gI rfl (hC.1 _) rfl ⟨by decide, rfl⟩ rfl ?_
  try dsimp only [Nat.reduceAdd]
  refine xS.s1 rfl rfl ?_
  try dsimp only [Nat.reduceAdd, xi_m1]
  refine xS.br (c := .ne) (off := 7) (l := 3) rfl rfl (fun h5 => ?_) (fun h5 => ?_)
  · have g5 := xt_ne h5
    refine xS.s1 rfl rfl ?_
    try dsimp only [Nat.reduceAdd, xi_0]
    refine xS.ret rfl rfl rfl (fun _ _ => rfl) ?_
    exact ⟨rfl, by split <;> first | rfl | (exfalso; simp_all)⟩
  · have g5 := xf_ne h5
    refine xS.s1 rfl rfl ?_
    try dsimp only [Nat.reduceAdd, xi_1]
    refine xS.s1 rfl rfl ?_
    try dsimp only [Nat.reduceAdd]
    refine xS.ret rfl rfl rfl (fun _ _ => rfl) ?_
    exact ⟨rfl, by split <;> first | rfl | (exfalso; simp_all)⟩

set_option maxRecDepth 10000 in
theorem c_X2_drop (hC : xde a) : xT (k + 1) 25 [.ref a] (xH b g l) (fun r M' => M' = xH b (up g a 1 (-1)) l ∧ r = none) := by
  refine xT.of rfl (Nat.le_of_ble_eq_true rfl) ?_
  dsimp only [lv_args]
  refine xS.s1 rfl rfl ?_
  try dsimp only [Nat.reduceAdd]
  refine xS.s1 rfl rfl ?_
  try dsimp only [Nat.reduceAdd, xi_m1]
  refine xS.pI rfl (hC.1 _) rfl ⟨⟨by decide, rfl⟩, rfl, by decide, by decide⟩ rfl ?_
  try dsimp only [Nat.reduceAdd]
  refine xS.ret rfl rfl rfl (fun _ _ => rfl) ?_
  exact ⟨rfl, rfl⟩

set_option maxRecDepth 10000 in
theorem c_X2_fact (hC : xde a) (hs : g a 1 = nI m) (hm : m ≤ 40) (hd : d < m) (hw : t < 4) : xT (k + 1) 26 [.ref a, .int (nI d), .int (nI t)] (xH b g l) (fun r M' => M' = xH b g l ∧ r = some (.int (g (a + 1) (4 * d + t)))) := by
  refine xT.of rfl (Nat.le_of_ble_eq_true rfl) ?_
  dsimp only [lv_args]
  refine xS.s1 rfl rfl ?_
  try dsimp only [Nat.reduceAdd]
  refine xS.br0 (c := .lt) (off := 24) (l := 3) rfl rfl (fun h1 => ?_) (fun h1 => ?_)
  · have g1 := xt_lt h1
    exfalso; simp (disch := omega) only [hs, Int32.lt_iff_toInt_lt, Int32.le_iff_toInt_le, nI_toInt, Int32.reduceToInt] at g1 <;> omega
  · have g1 := xf_lt h1
    refine xS.s1 rfl rfl ?_
    try dsimp only [Nat.reduceAdd]
    refine xS.s1 rfl rfl ?_
    try dsimp only [Nat.reduceAdd]
    refine xS.gI rfl (hC.1 _) rfl ⟨by decide, rfl⟩ rfl ?_
    try dsimp only [Nat.reduceAdd]
    refine xS.br (c := .ge) (off := 16) (l := 3) rfl rfl (fun h9 => ?_) (fun h9 => ?_)
    · have g9 := xt_ge h9
      exfalso; simp (disch := omega) only [hs, Int32.lt_iff_toInt_lt, Int32.le_iff_toInt_le, nI_toInt, Int32.reduceToInt] at g9 <;> omega
    · have g9 := xf_ge h9
      refine xS.s1 rfl rfl ?_
      try dsimp only [Nat.reduceAdd]
      refine xS.br0 (c := .lt) (off := 12) (l := 3) rfl rfl (fun h13 => ?_) (fun h13 => ?_)
      · have g13 := xt_lt h13
        exfalso; simp (disch := omega) only [hs, Int32.lt_iff_toInt_lt, Int32.le_iff_toInt_le, nI_toInt, Int32.reduceToInt] at g13 <;> omega
      · have g13 := xf_lt h13
        refine xS.s1 rfl rfl ?_
        try dsimp only [Nat.reduceAdd]
        refine xS.s1 rfl rfl ?_
        try dsimp only [Nat.reduceAdd, xi_4]
        refine xS.br (c := .ge) (off := 7) (l := 3) rfl rfl (fun h18 => ?_) (fun h18 => ?_)
        · have g18 := xt_ge h18
          exfalso; simp (disch := omega) only [hs, Int32.lt_iff_toInt_lt, Int32.le_iff_toInt_le, nI_toInt, Int32.reduceToInt] at g18 <;> omega
        · have g18 := xf_ge h18
          refine xS.s1 rfl rfl ?_
          try dsimp only [Nat.reduceAdd, xi_1]
          refine xS.s1 rfl rfl ?_
          try dsimp only [Nat.reduceAdd]
          refine xS.s1 rfl rfl ?_
          try dsimp only [Nat.reduceAdd]
          refine xS.s1 rfl rfl ?_
          try dsimp only [Nat.reduceAdd]
          refine xS.br0 (c := .eq) (off := 16) (l := 3) rfl rfl (fun h28 => ?_) (fun h28 => ?_)
          · have g28 := xt_eq h28
            exact absurd g28 (by decide)
          · have g28 := xf_eq h28
            refine xS.s1 rfl rfl ?_
            try dsimp only [Nat.reduceAdd]
            refine xS.gR rfl (hC.1 _) rfl ⟨by decide, rfl⟩ rfl ?_
            try dsimp only [Nat.reduceAdd]
            refine xS.s1 rfl rfl ?_
            try dsimp only [Nat.reduceAdd, xi_4]
            refine xS.s1 rfl rfl ?_
            try dsimp only [Nat.reduceAdd]
            refine xS.s1 rfl rfl ?_
            try dsimp only [Nat.reduceAdd]
            refine xS.s1 rfl rfl ?_
            try dsimp only [Nat.reduceAdd]
            refine xS.s1 rfl rfl ?_
            try dsimp only [Nat.reduceAdd]
            rw [show (((4 * nI d) + nI t) : Int32) = nI ((4 * d) + t) from by simp only [← nI_add, ← pk_mul]; rfl]
            refine xS.ia rfl hC.2 (by omega) ?_
            try dsimp only [Nat.reduceAdd]
            refine xS.s1 rfl rfl ?_
            try dsimp only [Nat.reduceAdd]
            refine xS.ret rfl rfl rfl (fun _ _ => rfl) ?_
            exact ⟨rfl, rfl⟩

set_option maxRecDepth 10000 in
theorem c_X2_write (hC : xde a) (hd : d < 40) (hw : t < 4) : xT (k + 1) 27 [.ref a, .int (nI d), .int (nI t), .int x] (xH b g l) (fun r M' => M' = xH b (up g (a + 1) (4 * d + t) x) l ∧ r = none) := by
  refine xT.of rfl (Nat.le_of_ble_eq_true rfl) ?_
  dsimp only [lv_args]
  refine xS.s1 rfl rfl ?_
  try dsimp only [Nat.reduceAdd]
  refine xS.br0 (c := .lt) (off := 20) (l := 3) rfl rfl (fun h1 => ?_) (fun h1 => ?_)
  · have g1 := xt_lt h1
    exfalso; simp (disch := omega) only [Int32.lt_iff_toInt_lt, Int32.le_iff_toInt_le, nI_toInt, Int32.reduceToInt] at g1 <;> omega
  · have g1 := xf_lt h1
    refine xS.s1 rfl rfl ?_
    try dsimp only [Nat.reduceAdd]
    refine xS.s1 rfl rfl ?_
    try dsimp only [Nat.reduceAdd, xj_40]
    refine xS.br (c := .ge) (off := 14) (l := 3) rfl rfl (fun h7 => ?_) (fun h7 => ?_)
    · have g7 := xt_ge h7
      exfalso; simp (disch := omega) only [Int32.lt_iff_toInt_lt, Int32.le_iff_toInt_le, nI_toInt, Int32.reduceToInt] at g7 <;> omega
    · have g7 := xf_ge h7
      refine xS.s1 rfl rfl ?_
      try dsimp only [Nat.reduceAdd]
      refine xS.gR rfl (hC.1 _) rfl ⟨by decide, rfl⟩ rfl ?_
      try dsimp only [Nat.reduceAdd]
      refine xS.s1 rfl rfl ?_
      try dsimp only [Nat.reduceAdd, xi_4]
      refine xS.s1 rfl rfl ?_
      try dsimp only [Nat.reduceAdd]
      refine xS.s1 rfl rfl ?_
      try dsimp only [Nat.reduceAdd]
      refine xS.s1 rfl rfl ?_
      try dsimp only [Nat.reduceAdd]
      refine xS.s1 rfl rfl ?_
      try dsimp only [Nat.reduceAdd]
      refine xS.s1 rfl rfl ?_
      try dsimp only [Nat.reduceAdd]
      rw [show (((4 * nI d) + nI t) : Int32) = nI ((4 * d) + t) from by simp only [← nI_add, ← pk_mul]; rfl]
      refine xS.ias rfl hC.2 (by omega) ?_
      try dsimp only [Nat.reduceAdd]
      refine xS.ret rfl rfl rfl (fun _ _ => rfl) ?_
      exact ⟨rfl, rfl⟩

set_option maxRecDepth 10000 in
theorem c_X2_see (hC : xde a) (hd : d < 40) : xT (k + 2) 29 [.ref a, .int (nI d), .int x, .int y] (xH b g l) (fun r M' => M' = xH b (up (up g (a + 1) (4 * d + 2) x) (a + 1) (4 * d + 3) y) l ∧ r = none) := by
  refine xT.of rfl (Nat.le_of_ble_eq_true rfl) ?_
  dsimp only [lv_args]
  refine xS.s1 rfl rfl ?_
  try dsimp only [Nat.reduceAdd]
  refine xS.s1 rfl rfl ?_
  try dsimp only [Nat.reduceAdd]
  refine xS.s1 rfl rfl ?_
  try dsimp only [Nat.reduceAdd, xi_2]
  refine xS.s1 rfl rfl ?_
  try dsimp only [Nat.reduceAdd]
  -- 4 yX2_write
  refine xS.cv rfl rfl rfl (hC.1 _) rfl rfl ⟨by decide, rfl, rfl⟩ (c_X2_write (t := 2) hC hd (by decide)) (fun v M1 hv => ?_)
  rw [hv.1, hv.2]
  clear hv M1 v
  try dsimp only [Nat.reduceAdd, Option.toList, List.cons_append, List.nil_append, List.drop]
  refine xS.s1 rfl rfl ?_
  try dsimp only [Nat.reduceAdd]
  refine xS.s1 rfl rfl ?_
  try dsimp only [Nat.reduceAdd]
  refine xS.s1 rfl rfl ?_
  try dsimp only [Nat.reduceAdd, xi_3]
  refine xS.s1 rfl rfl ?_
  try dsimp only [Nat.reduceAdd]
  -- 11 yX2_write
  refine xS.cv rfl rfl rfl (hC.1 _) rfl rfl ⟨by decide, rfl, rfl⟩ (c_X2_write (t := 3) hC hd (by decide)) (fun v M1 hv => ?_)
  rw [hv.1, hv.2]
  clear hv M1 v
  try dsimp only [Nat.reduceAdd, Option.toList, List.cons_append, List.nil_append, List.drop]
  refine xS.ret rfl rfl rfl (fun _ _ => rfl) ?_
  exact ⟨rfl, rfl⟩

theorem c_X2_sz {g : Nat → Nat → Int32} {a j : Nat} {v x : Int32} (h : g a 1 = x) : up g (a + 1) j v a 1 = x := by rw [up_ne (Or.inl (by omega)), h]

set_option maxRecDepth 10000 in
theorem c_X2_add (hC : xde a) (hs : g a 1 = nI m) (hm : m < 40) : xT (k + 3) 28 [.ref a, .int x, .int y] (xH b g l) (fun r M' => M' = xH b (up (up (up (up (up g (a + 1) (4 * m) x) (a + 1) (4 * m + 1) y) (a + 1) (4 * m + 2) 0) (a + 1) (4 * m + 3) (-9)) a 1 (nI (m + 1))) l ∧ r = none) := by
  refine xT.of rfl (Nat.le_of_ble_eq_true rfl) ?_
  dsimp only [lv_args]
  refine xS.s1 rfl rfl ?_
  try dsimp only [Nat.reduceAdd]
  refine xS.gI rfl (hC.1 _) rfl ⟨by decide, rfl⟩ rfl ?_
  try dsimp only [Nat.reduceAdd]
  refine xS.br0 (c := .lt) (off := 53) (l := 3) rfl rfl (fun h4 => ?_) (fun h4 => ?_)
  · have g4 := xt_lt h4
    exfalso; simp (disch := omega) only [hs, Int32.lt_iff_toInt_lt, Int32.le_iff_toInt_le, nI_toInt, Int32.reduceToInt] at g4 <;> omega
  · have g4 := xf_lt h4
    refine xS.s1 rfl rfl ?_
    try dsimp only [Nat.reduceAdd]
    refine xS.gI rfl (hC.1 _) rfl ⟨by decide, rfl⟩ rfl ?_
    try dsimp only [Nat.reduceAdd]
    refine xS.s1 rfl rfl ?_
    try dsimp only [Nat.reduceAdd, xj_40]
    refine xS.br (c := .ge) (off := 44) (l := 3) rfl rfl (fun h13 => ?_) (fun h13 => ?_)
    · have g13 := xt_ge h13
      exfalso; simp (disch := omega) only [hs, Int32.lt_iff_toInt_lt, Int32.le_iff_toInt_le, nI_toInt, Int32.reduceToInt] at g13 <;> omega
    · have g13 := xf_ge h13
      refine xS.s1 rfl rfl ?_
      try dsimp only [Nat.reduceAdd]
      refine xS.s1 rfl rfl ?_
      try dsimp only [Nat.reduceAdd]
      refine xS.gI rfl (hC.1 _) rfl ⟨by decide, rfl⟩ rfl ?_
      try dsimp only [Nat.reduceAdd]
      rw [hs]
      refine xS.s1 rfl rfl ?_
      try dsimp only [Nat.reduceAdd, xi_0]
      refine xS.s1 rfl rfl ?_
      try dsimp only [Nat.reduceAdd]
      -- 23 yX2_write
      refine xS.cv rfl rfl rfl (hC.1 _) rfl rfl ⟨by decide, rfl, rfl⟩ (c_X2_write (t := 0) hC hm (by decide)) (fun v M1 hv => ?_)
      rw [hv.1, hv.2]
      clear hv M1 v
      try dsimp only [Nat.reduceAdd, Option.toList, List.cons_append, List.nil_append, List.drop]
      refine xS.s1 rfl rfl ?_
      try dsimp only [Nat.reduceAdd]
      refine xS.s1 rfl rfl ?_
      try dsimp only [Nat.reduceAdd]
      refine xS.gI rfl (hC.1 _) rfl ⟨by decide, rfl⟩ rfl ?_
      try dsimp only [Nat.reduceAdd]
      rw [c_X2_sz hs]
      refine xS.s1 rfl rfl ?_
      try dsimp only [Nat.reduceAdd, xi_1]
      refine xS.s1 rfl rfl ?_
      try dsimp only [Nat.reduceAdd]
      -- 33 yX2_write
      refine xS.cv rfl rfl rfl (hC.1 _) rfl rfl ⟨by decide, rfl, rfl⟩ (c_X2_write (t := 1) hC hm (by decide)) (fun v M1 hv => ?_)
      rw [hv.1, hv.2]
      clear hv M1 v
      try dsimp only [Nat.reduceAdd, Option.toList, List.cons_append, List.nil_append, List.drop]
      refine xS.s1 rfl rfl ?_
      try dsimp only [Nat.reduceAdd]
      refine xS.s1 rfl rfl ?_
      try dsimp only [Nat.reduceAdd]
      refine xS.gI rfl (hC.1 _) rfl ⟨by decide, rfl⟩ rfl ?_
      try dsimp only [Nat.reduceAdd]
      rw [c_X2_sz (c_X2_sz hs)]
      refine xS.s1 rfl rfl ?_
      try dsimp only [Nat.reduceAdd, xi_0]
      refine xS.s1 rfl rfl ?_
      try dsimp only [Nat.reduceAdd, xj_m9]
      -- 44 yX2_see
      refine xS.cv rfl rfl rfl (hC.1 _) rfl rfl ⟨by decide, rfl, rfl⟩ (c_X2_see hC hm) (fun v M1 hv => ?_)
      rw [hv.1, hv.2]
      clear hv M1 v
      try dsimp only [Nat.reduceAdd, Option.toList, List.cons_append, List.nil_append, List.drop]
      refine xS.s1 rfl rfl ?_
      try dsimp only [Nat.reduceAdd]
      refine xS.s1 rfl rfl ?_
      try dsimp only [Nat.reduceAdd]
      refine xS.gI rfl (hC.1 _) rfl ⟨by decide, rfl⟩ rfl ?_
      try dsimp only [Nat.reduceAdd]
      rw [c_X2_sz (c_X2_sz (c_X2_sz (c_X2_sz hs)))]
      refine xS.s1 rfl rfl ?_
      try dsimp only [Nat.reduceAdd, xi_1]
      refine xS.s1 rfl rfl ?_
      try dsimp only [Nat.reduceAdd]
      rw [nI_1]
      refine xS.pI rfl (hC.1 _) rfl ⟨⟨by decide, rfl⟩, rfl, by decide, by decide⟩ rfl ?_
      try dsimp only [Nat.reduceAdd]
      refine xS.ret rfl rfl rfl (fun _ _ => rfl) ?_
      exact ⟨rfl, rfl⟩

set_option maxRecDepth 10000 in
theorem c_X2_cutTo (hC : xde a) (hs : g a 1 = nI m) (hm : m ≤ 40) (ht : t ≤ m) : xT (k + 1) 30 [.ref a, .int (nI t)] (xH b g l) (fun r M' => M' = xH b (up g a 1 (nI t)) l ∧ r = none) := by
  refine xT.of rfl (Nat.le_of_ble_eq_true rfl) ?_
  dsimp only [lv_args]
  refine xS.s1 rfl rfl ?_
  try dsimp only [Nat.reduceAdd]
  refine xS.br0 (c := .lt) (off := 16) (l := 3) rfl rfl (fun h1 => ?_) (fun h1 => ?_)
  · have g1 := xt_lt h1
    exfalso; simp (disch := omega) only [hs, Int32.lt_iff_toInt_lt, Int32.le_iff_toInt_le, nI_toInt, Int32.reduceToInt] at g1 <;> omega
  · have g1 := xf_lt h1
    refine xS.s1 rfl rfl ?_
    try dsimp only [Nat.reduceAdd]
    refine xS.s1 rfl rfl ?_
    try dsimp only [Nat.reduceAdd]
    refine xS.gI rfl (hC.1 _) rfl ⟨by decide, rfl⟩ rfl ?_
    try dsimp only [Nat.reduceAdd]
    refine xS.br (c := .ge) (off := 8) (l := 3) rfl rfl (fun h9 => ?_) (fun h9 => ?_)
    · have g9 := xt_ge h9
      refine xS.ret rfl rfl rfl (fun _ _ => rfl) ?_
      rw [hs] at g9
      have e := xnle g9 (by omega) (by omega)
      exact ⟨by rw [up_id (by rw [hs, show t = m by omega])], rfl⟩
    · have g9 := xf_ge h9
      refine xS.s1 rfl rfl ?_
      try dsimp only [Nat.reduceAdd]
      refine xS.s1 rfl rfl ?_
      try dsimp only [Nat.reduceAdd]
      refine xS.pI rfl (hC.1 _) rfl ⟨⟨by decide, rfl⟩, rfl, by decide, by decide⟩ rfl ?_
      try dsimp only [Nat.reduceAdd]
      refine xS.ret rfl rfl rfl (fun _ _ => rfl) ?_
      exact ⟨rfl, rfl⟩

set_option maxRecDepth 10000 in
theorem c_X2_takeAll (hC : xde a) (hF : xde c) (hs : g c 1 = nI m) (hm : m ≤ 40) : xT (k + 1) 31 [.ref a, .ref c] (xH b g l) (fun r M' => M' = xH b (gcopy (up g a 1 (nI m)) (c + 1) 0 (a + 1) 0 (4 * m)) l ∧ r = none) := by
  refine xT.of rfl (Nat.le_of_ble_eq_true rfl) ?_
  dsimp only [lv_args]
  refine xS.s1 rfl rfl ?_
  try dsimp only [Nat.reduceAdd]
  refine xS.s1 rfl rfl ?_
  try dsimp only [Nat.reduceAdd]
  refine xS.gI rfl (hF.1 _) rfl ⟨by decide, rfl⟩ rfl ?_
  try dsimp only [Nat.reduceAdd]
  rw [hs]
  refine xS.pI rfl (hC.1 _) rfl ⟨⟨by decide, rfl⟩, rfl, by decide, by decide⟩ rfl ?_
  try dsimp only [Nat.reduceAdd]
  refine xS.s1 rfl rfl ?_
  try dsimp only [Nat.reduceAdd]
  refine xS.gI rfl (hC.1 _) rfl ⟨by decide, rfl⟩ rfl ?_
  try dsimp only [Nat.reduceAdd]
  rw [up_same]
  refine xS.br0 (c := .le) (off := 31) (l := 3) rfl rfl (fun h12 => ?_) (fun h12 => ?_)
  · have g12 := xt_le h12
    refine xS.ret rfl rfl rfl (fun _ _ => rfl) ?_
    have e := xn0 g12 (by omega)
    subst e
    exact ⟨by rw [gcopy_0], rfl⟩
  · have g12 := xf_le h12
    refine xS.s1 rfl rfl ?_
    try dsimp only [Nat.reduceAdd]
    refine xS.gI rfl (hC.1 _) rfl ⟨by decide, rfl⟩ rfl ?_
    try dsimp only [Nat.reduceAdd]
    rw [up_same]
    refine xS.s1 rfl rfl ?_
    try dsimp only [Nat.reduceAdd, xj_40]
    refine xS.br (c := .gt) (off := 22) (l := 3) rfl rfl (fun h21 => ?_) (fun h21 => ?_)
    · have g21 := xt_gt h21
      exfalso; simp (disch := omega) only [Int32.lt_iff_toInt_lt, Int32.le_iff_toInt_le, nI_toInt, Int32.reduceToInt] at g21 <;> omega
    · have g21 := xf_gt h21
      refine xS.s1 rfl rfl ?_
      try dsimp only [Nat.reduceAdd]
      refine xS.gR rfl (hF.1 _) rfl ⟨by decide, rfl⟩ rfl ?_
      try dsimp only [Nat.reduceAdd]
      refine xS.s1 rfl rfl ?_
      try dsimp only [Nat.reduceAdd, xi_0]
      refine xS.s1 rfl rfl ?_
      try dsimp only [Nat.reduceAdd]
      refine xS.gR rfl (hC.1 _) rfl ⟨by decide, rfl⟩ rfl ?_
      try dsimp only [Nat.reduceAdd]
      refine xS.s1 rfl rfl ?_
      try dsimp only [Nat.reduceAdd, xi_0]
      refine xS.s1 rfl rfl ?_
      try dsimp only [Nat.reduceAdd, xi_4]
      refine xS.s1 rfl rfl ?_
      try dsimp only [Nat.reduceAdd]
      refine xS.gI rfl (hC.1 _) rfl ⟨by decide, rfl⟩ rfl ?_
      try dsimp only [Nat.reduceAdd]
      rw [up_same]
      refine xS.s1 rfl rfl ?_
      try dsimp only [Nat.reduceAdd]
      rw [show (4 : Int32) * nI m = nI (4 * m) from pk_mul 4 m]
      refine xS.acp (sj := 0) (dj := 0) rfl rfl hF.2 hC.2 (by omega) (by omega) rfl ?_
      try dsimp only [Nat.reduceAdd]
      refine xS.ret rfl rfl rfl (fun _ _ => rfl) ?_
      exact ⟨rfl, rfl⟩

set_option maxRecDepth 10000 in
theorem c_X2_stepAt (hC : xde a) (hs : g a 1 = nI m) (hm : m ≤ 40) (ht : t < m) : xT (k + 2) 36 [.ref a, .int (nI t)] (xH b g l) (fun r M' => M' = xH b g l ∧ r = some (.int (g (a + 1) (4 * t)))) := by
  refine xT.of rfl (Nat.le_of_ble_eq_true rfl) ?_
  dsimp only [lv_args]
  refine xS.s1 rfl rfl ?_
  try dsimp only [Nat.reduceAdd]
  refine xS.s1 rfl rfl ?_
  try dsimp only [Nat.reduceAdd]
  refine xS.s1 rfl rfl ?_
  try dsimp only [Nat.reduceAdd, xi_0]
  -- 3 yX2_fact
  refine xS.cv rfl rfl rfl (hC.1 _) rfl rfl ⟨by decide, rfl, rfl⟩ (c_X2_fact (t := 0) hC hs hm ht (by decide)) (fun v M1 hv => ?_)
  rw [hv.1, hv.2]
  clear hv M1 v
  try dsimp only [Nat.reduceAdd, Option.toList, List.cons_append, List.nil_append, List.drop]
  refine xS.ret rfl rfl rfl (fun _ _ => rfl) ?_
  exact ⟨rfl, rfl⟩

end
end
section
/-! counts, firsts; panes; what a room tells -/
def xcnt (p : Nat → Bool) (n : Nat) : Nat := Nat.rec (motive := fun _ => Nat) 0 (fun j c => bif p j then c + 1 else c) n
theorem xcnt_0 (p : Nat → Bool) : xcnt p 0 = 0 := rfl
theorem xcnt_s (p : Nat → Bool) (n : Nat) : xcnt p (n + 1) = bif p n then xcnt p n + 1 else xcnt p n := rfl
theorem xcnt_le (p : Nat → Bool) : ∀ n, xcnt p n ≤ n
  | 0 => Nat.le_refl 0
  | n + 1 => by
    have := xcnt_le p n
    rw [xcnt_s]
    cases p n <;> simp only [cond_true, cond_false] <;> omega
def xfst (p : Nat → Bool) (n : Nat) : Option Nat := Nat.rec (motive := fun _ => Option Nat) none (fun j o => match o with
  | some d => some d
  | none => bif p j then some j else none) n
theorem xfst_0 (p : Nat → Bool) : xfst p 0 = none := rfl
theorem xfst_s (p : Nat → Bool) (n : Nat) : xfst p (n + 1) = (match xfst p n with
  | some d => some d
  | none => bif p n then some n else none) := rfl
theorem xfst_n {p : Nat → Bool} {n : Nat} (h : xfst p n = none) (hp : p n = false) : xfst p (n + 1) = none := by
  rw [xfst_s, h, hp]
  rfl
theorem xfst_up {p : Nat → Bool} {j d : Nat} (h : xfst p j = some d) : ∀ t, xfst p (j + t) = some d
  | 0 => h
  | t + 1 => by
    show xfst p (j + t + 1) = _
    rw [xfst_s, xfst_up h t]
theorem xfst_at {p : Nat → Bool} {j m : Nat} (h : xfst p j = none) (hp : p j = true) (hm : j < m) : xfst p m = some j := by
  have h1 : xfst p (j + 1) = some j := by
    rw [xfst_s, h, hp]
    rfl
  have h2 := xfst_up h1 (m - (j + 1))
  rwa [show j + 1 + (m - (j + 1)) = m by omega] at h2
def xfI (o : Option Nat) : Int32 := match o with
  | none => -9
  | some d => nI d

section
variable {k a c n n2 m t p s d i1 j1 : Nat} {b : Nat × Nat} {g : Nat → Nat → Int32} {l : Nat → Nat → Int64} {i j x y z v w : Int32} {u w1 w2 : Int64}

set_option maxRecDepth 10000 in
theorem c_X2_howManyBefore (hC : xde a) (hs : g a 1 = nI m) (hm : m ≤ 40) : xT (k + 2) 32 [.ref a, .int x] (xH b g l) (fun r M' => M' = xH b g l ∧ r = some (.int (nI (xcnt (fun d => decide (g (a + 1) (4 * d + 1) = x)) m)))) := by
  refine xT.of rfl (Nat.le_of_ble_eq_true rfl) ?_
  dsimp only [lv_args]
  refine xS.s1 rfl rfl ?_
  try dsimp only [Nat.reduceAdd, xi_0]
  refine xS.s1 rfl rfl ?_
  try dsimp only [Nat.reduceAdd]
  refine xS.s1 rfl rfl ?_
  try dsimp only [Nat.reduceAdd, xi_0]
  refine xS.s1 rfl rfl ?_
  try dsimp only [Nat.reduceAdd]
  refine xS.pick [0, 1, 2, 3] rfl ?_
  refine xS.loop (σ := Unit) (m) (fun j S => [(3, .int (nI j)), (2, .int (nI (xcnt (fun d => decide (g (a + 1) (4 * d + 1) = x)) j))), (0, .ref a), (1, .int x)]) (fun _ _ => xH b g l) (fun _ _ => True) (()) (rfl) (rfl) (trivial) ?_
  intro j S hj hI ih
  try dsimp only
  refine xS.s1 rfl rfl ?_
  try dsimp only [Nat.reduceAdd]
  refine xS.s1 rfl rfl ?_
  try dsimp only [Nat.reduceAdd]
  refine xS.gI rfl (hC.1 _) rfl ⟨by decide, rfl⟩ rfl ?_
  try dsimp only [Nat.reduceAdd]
  refine xS.br (c := .ge) (off := 22) (l := 3) rfl rfl (fun h9 => ?_) (fun h9 => ?_)
  · have g9 := xt_ge h9
    refine xS.s1 rfl rfl ?_
    try dsimp only [Nat.reduceAdd]
    refine xS.ret rfl rfl rfl (fun _ _ => rfl) ?_
    rw [hs] at g9
    have e := xnle g9 (by omega) (by omega)
    rw [show m = j by omega]
    exact ⟨rfl, rfl⟩
  · have g9 := xf_ge h9
    rw [hs] at g9
    have hlt := xnlt g9 (by omega) (by omega)
    refine xS.s1 rfl rfl ?_
    try dsimp only [Nat.reduceAdd]
    refine xS.s1 rfl rfl ?_
    try dsimp only [Nat.reduceAdd]
    refine xS.s1 rfl rfl ?_
    try dsimp only [Nat.reduceAdd, xi_1]
    -- 15 yX2_fact
    refine xS.cv rfl rfl rfl (hC.1 _) rfl rfl ⟨by decide, rfl, rfl⟩ (c_X2_fact (t := 1) hC hs hm hlt (by decide)) (fun v M1 hv => ?_)
    rw [hv.1, hv.2]
    clear hv M1 v
    try dsimp only [Nat.reduceAdd, Option.toList, List.cons_append, List.nil_append, List.drop]
    refine xS.s1 rfl rfl ?_
    try dsimp only [Nat.reduceAdd]
    refine xS.br (c := .ne) (off := 6) (l := 3) rfl rfl (fun h19 => ?_) (fun h19 => ?_)
    · have g19 := xt_ne h19
      refine xS.s1 rfl rfl ?_
      try dsimp only [Nat.reduceAdd, xi_1]
      rw [nI_1]
      refine xS.s1 rfl rfl ?_
      try dsimp only [Nat.reduceAdd]
      refine xS.pick [0, 1, 2, 3] rfl ?_
      have ih2 := ih () (by omega) trivial
      first | (rw [show xcnt (fun d => decide (g (a + 1) (4 * d + 1) = x)) (j + 1) = xcnt (fun d => decide (g (a + 1) (4 * d + 1) = x)) j from by simp [xcnt_s, g9, g19]] at ih2; exact ih2) | (rw [show xcnt (fun d => decide (g (a + 1) (4 * d + 1) = x)) (j + 1) = xcnt (fun d => decide (g (a + 1) (4 * d + 1) = x)) j + 1 from by simp [xcnt_s, g9, g19]] at ih2; exact ih2)
    · have g19 := xf_ne h19
      refine xS.s1 rfl rfl ?_
      try dsimp only [Nat.reduceAdd, xi_1]
      rw [nI_1]
      refine xS.s1 rfl rfl ?_
      try dsimp only [Nat.reduceAdd, xi_1]
      rw [nI_1]
      refine xS.s1 rfl rfl ?_
      try dsimp only [Nat.reduceAdd]
      refine xS.pick [0, 1, 2, 3] rfl ?_
      have ih2 := ih () (by omega) trivial
      first | (rw [show xcnt (fun d => decide (g (a + 1) (4 * d + 1) = x)) (j + 1) = xcnt (fun d => decide (g (a + 1) (4 * d + 1) = x)) j from by simp [xcnt_s, g9, g19]] at ih2; exact ih2) | (rw [show xcnt (fun d => decide (g (a + 1) (4 * d + 1) = x)) (j + 1) = xcnt (fun d => decide (g (a + 1) (4 * d + 1) = x)) j + 1 from by simp [xcnt_s, g9, g19]] at ih2; exact ih2)

set_option maxRecDepth 10000 in
theorem c_X2_howManyBrokeBefore (hC : xde a) (hs : g a 1 = nI m) (hm : m ≤ 40) : xT (k + 2) 33 [.ref a, .int x] (xH b g l) (fun r M' => M' = xH b g l ∧ r = some (.int (nI (xcnt (fun d => decide (g (a + 1) (4 * d + 1) = x) && !decide (g (a + 1) (4 * d + 3) = -9)) m)))) := by
  refine xT.of rfl (Nat.le_of_ble_eq_true rfl) ?_
  dsimp only [lv_args]
  refine xS.s1 rfl rfl ?_
  try dsimp only [Nat.reduceAdd, xi_0]
  refine xS.s1 rfl rfl ?_
  try dsimp only [Nat.reduceAdd]
  refine xS.s1 rfl rfl ?_
  try dsimp only [Nat.reduceAdd, xi_0]
  refine xS.s1 rfl rfl ?_
  try dsimp only [Nat.reduceAdd]
  refine xS.pick [0, 1, 2, 3] rfl ?_
  refine xS.loop (σ := Unit) (m) (fun j S => [(3, .int (nI j)), (2, .int (nI (xcnt (fun d => decide (g (a + 1) (4 * d + 1) = x) && !decide (g (a + 1) (4 * d + 3) = -9)) j))), (0, .ref a), (1, .int x)]) (fun _ _ => xH b g l) (fun _ _ => True) (()) (rfl) (rfl) (trivial) ?_
  intro j S hj hI ih
  try dsimp only
  refine xS.s1 rfl rfl ?_
  try dsimp only [Nat.reduceAdd]
  refine xS.s1 rfl rfl ?_
  try dsimp only [Nat.reduceAdd]
  refine xS.gI rfl (hC.1 _) rfl ⟨by decide, rfl⟩ rfl ?_
  try dsimp only [Nat.reduceAdd]
  refine xS.br (c := .ge) (off := 33) (l := 3) rfl rfl (fun h9 => ?_) (fun h9 => ?_)
  · have g9 := xt_ge h9
    refine xS.s1 rfl rfl ?_
    try dsimp only [Nat.reduceAdd]
    refine xS.ret rfl rfl rfl (fun _ _ => rfl) ?_
    rw [hs] at g9
    have e := xnle g9 (by omega) (by omega)
    rw [show m = j by omega]
    exact ⟨rfl, rfl⟩
  · have g9 := xf_ge h9
    rw [hs] at g9
    have hlt := xnlt g9 (by omega) (by omega)
    refine xS.s1 rfl rfl ?_
    try dsimp only [Nat.reduceAdd]
    refine xS.s1 rfl rfl ?_
    try dsimp only [Nat.reduceAdd]
    refine xS.s1 rfl rfl ?_
    try dsimp only [Nat.reduceAdd, xi_1]
    -- 15 yX2_fact
    refine xS.cv rfl rfl rfl (hC.1 _) rfl rfl ⟨by decide, rfl, rfl⟩ (c_X2_fact (t := 1) hC hs hm hlt (by decide)) (fun v M1 hv => ?_)
    rw [hv.1, hv.2]
    clear hv M1 v
    try dsimp only [Nat.reduceAdd, Option.toList, List.cons_append, List.nil_append, List.drop]
    refine xS.s1 rfl rfl ?_
    try dsimp only [Nat.reduceAdd]
    refine xS.br (c := .ne) (off := 17) (l := 3) rfl rfl (fun h19 => ?_) (fun h19 => ?_)
    · have g19 := xt_ne h19
      refine xS.s1 rfl rfl ?_
      try dsimp only [Nat.reduceAdd, xi_1]
      rw [nI_1]
      refine xS.s1 rfl rfl ?_
      try dsimp only [Nat.reduceAdd]
      refine xS.pick [0, 1, 2, 3] rfl ?_
      have ih2 := ih () (by omega) trivial
      first | (rw [show xcnt (fun d => decide (g (a + 1) (4 * d + 1) = x) && !decide (g (a + 1) (4 * d + 3) = -9)) (j + 1) = xcnt (fun d => decide (g (a + 1) (4 * d + 1) = x) && !decide (g (a + 1) (4 * d + 3) = -9)) j from by simp [xcnt_s, g9, g19]] at ih2; exact ih2) | (rw [show xcnt (fun d => decide (g (a + 1) (4 * d + 1) = x) && !decide (g (a + 1) (4 * d + 3) = -9)) (j + 1) = xcnt (fun d => decide (g (a + 1) (4 * d + 1) = x) && !decide (g (a + 1) (4 * d + 3) = -9)) j + 1 from by simp [xcnt_s, g9, g19]] at ih2; exact ih2)
    · have g19 := xf_ne h19
      refine xS.s1 rfl rfl ?_
      try dsimp only [Nat.reduceAdd]
      refine xS.s1 rfl rfl ?_
      try dsimp only [Nat.reduceAdd]
      refine xS.s1 rfl rfl ?_
      try dsimp only [Nat.reduceAdd, xi_3]
      -- 25 yX2_fact
      refine xS.cv rfl rfl rfl (hC.1 _) rfl rfl ⟨by decide, rfl, rfl⟩ (c_X2_fact (t := 3) hC hs hm hlt (by decide)) (fun v M1 hv => ?_)
      rw [hv.1, hv.2]
      clear hv M1 v
      try dsimp only [Nat.reduceAdd, Option.toList, List.cons_append, List.nil_append, List.drop]
      refine xS.s1 rfl rfl ?_
      try dsimp only [Nat.reduceAdd, xj_m9]
      refine xS.br (c := .eq) (off := 6) (l := 3) rfl rfl (fun h30 => ?_) (fun h30 => ?_)
      · have g30 := xt_eq h30
        refine xS.s1 rfl rfl ?_
        try dsimp only [Nat.reduceAdd, xi_1]
        rw [nI_1]
        refine xS.s1 rfl rfl ?_
        try dsimp only [Nat.reduceAdd]
        refine xS.pick [0, 1, 2, 3] rfl ?_
        have ih2 := ih () (by omega) trivial
        first | (rw [show xcnt (fun d => decide (g (a + 1) (4 * d + 1) = x) && !decide (g (a + 1) (4 * d + 3) = -9)) (j + 1) = xcnt (fun d => decide (g (a + 1) (4 * d + 1) = x) && !decide (g (a + 1) (4 * d + 3) = -9)) j from by simp [xcnt_s, g9, g19, g30]] at ih2; exact ih2) | (rw [show xcnt (fun d => decide (g (a + 1) (4 * d + 1) = x) && !decide (g (a + 1) (4 * d + 3) = -9)) (j + 1) = xcnt (fun d => decide (g (a + 1) (4 * d + 1) = x) && !decide (g (a + 1) (4 * d + 3) = -9)) j + 1 from by simp [xcnt_s, g9, g19, g30]] at ih2; exact ih2)
      · have g30 := xf_eq h30
        refine xS.s1 rfl rfl ?_
        try dsimp only [Nat.reduceAdd, xi_1]
        rw [nI_1]
        refine xS.s1 rfl rfl ?_
        try dsimp only [Nat.reduceAdd, xi_1]
        rw [nI_1]
        refine xS.s1 rfl rfl ?_
        try dsimp only [Nat.reduceAdd]
        refine xS.pick [0, 1, 2, 3] rfl ?_
        have ih2 := ih () (by omega) trivial
        first | (rw [show xcnt (fun d => decide (g (a + 1) (4 * d + 1) = x) && !decide (g (a + 1) (4 * d + 3) = -9)) (j + 1) = xcnt (fun d => decide (g (a + 1) (4 * d + 1) = x) && !decide (g (a + 1) (4 * d + 3) = -9)) j from by simp [xcnt_s, g9, g19, g30]] at ih2; exact ih2) | (rw [show xcnt (fun d => decide (g (a + 1) (4 * d + 1) = x) && !decide (g (a + 1) (4 * d + 3) = -9)) (j + 1) = xcnt (fun d => decide (g (a + 1) (4 * d + 1) = x) && !decide (g (a + 1) (4 * d + 3) = -9)) j + 1 from by simp [xcnt_s, g9, g19, g30]] at ih2; exact ih2)

set_option maxRecDepth 10000 in
theorem c_X2_howManyBroke (hC : xde a) (hs : g a 1 = nI m) (hm : m ≤ 40) (hf : s ≤ m) : xT (k + 2) 34 [.ref a, .int (nI s)] (xH b g l) (fun r M' => M' = xH b g l ∧ r = some (.int (nI (xcnt (fun d => !decide (g (a + 1) (4 * (s + d) + 3) = -9)) (m - s))))) := by
  refine xT.of rfl (Nat.le_of_ble_eq_true rfl) ?_
  dsimp only [lv_args]
  refine xS.s1 rfl rfl ?_
  try dsimp only [Nat.reduceAdd, xi_0]
  refine xS.s1 rfl rfl ?_
  try dsimp only [Nat.reduceAdd]
  refine xS.s1 rfl rfl ?_
  try dsimp only [Nat.reduceAdd]
  refine xS.s1 rfl rfl ?_
  try dsimp only [Nat.reduceAdd]
  refine xS.pick [0, 1, 2] rfl ?_
  refine xS.loop (σ := Unit) (m - s) (fun j S => [(3, .int (nI (s + j))), (2, .int (nI (xcnt (fun d => !decide (g (a + 1) (4 * (s + d) + 3) = -9)) j))), (0, .ref a)]) (fun _ _ => xH b g l) (fun _ _ => True) (()) (rfl) (rfl) (trivial) ?_
  intro j S hj hI ih
  try dsimp only
  refine xS.s1 rfl rfl ?_
  try dsimp only [Nat.reduceAdd]
  refine xS.s1 rfl rfl ?_
  try dsimp only [Nat.reduceAdd]
  refine xS.gI rfl (hC.1 _) rfl ⟨by decide, rfl⟩ rfl ?_
  try dsimp only [Nat.reduceAdd]
  refine xS.br (c := .ge) (off := 23) (l := 3) rfl rfl (fun h9 => ?_) (fun h9 => ?_)
  · have g9 := xt_ge h9
    refine xS.s1 rfl rfl ?_
    try dsimp only [Nat.reduceAdd]
    refine xS.ret rfl rfl rfl (fun _ _ => rfl) ?_
    rw [hs] at g9
    have e := xnle g9 (by omega) (by omega)
    rw [show m - s = j by omega]
    exact ⟨rfl, rfl⟩
  · have g9 := xf_ge h9
    rw [hs] at g9
    have hlt := xnlt g9 (by omega) (by omega)
    refine xS.s1 rfl rfl ?_
    try dsimp only [Nat.reduceAdd]
    refine xS.s1 rfl rfl ?_
    try dsimp only [Nat.reduceAdd]
    refine xS.s1 rfl rfl ?_
    try dsimp only [Nat.reduceAdd, xi_3]
    -- 15 yX2_fact
    refine xS.cv rfl rfl rfl (hC.1 _) rfl rfl ⟨by decide, rfl, rfl⟩ (c_X2_fact (t := 3) hC hs hm hlt (by decide)) (fun v M1 hv => ?_)
    rw [hv.1, hv.2]
    clear hv M1 v
    try dsimp only [Nat.reduceAdd, Option.toList, List.cons_append, List.nil_append, List.drop]
    refine xS.s1 rfl rfl ?_
    try dsimp only [Nat.reduceAdd, xj_m9]
    refine xS.br (c := .eq) (off := 6) (l := 3) rfl rfl (fun h20 => ?_) (fun h20 => ?_)
    · have g20 := xt_eq h20
      refine xS.s1 rfl rfl ?_
      try dsimp only [Nat.reduceAdd, xi_1]
      rw [nI_1]
      refine xS.s1 rfl rfl ?_
      try dsimp only [Nat.reduceAdd]
      refine xS.pick [0, 1, 2] rfl ?_
      have ih2 := ih () (by omega) trivial
      first | (rw [show xcnt (fun d => !decide (g (a + 1) (4 * (s + d) + 3) = -9)) (j + 1) = xcnt (fun d => !decide (g (a + 1) (4 * (s + d) + 3) = -9)) j from by simp [xcnt_s, g9, g20]] at ih2; exact ih2) | (rw [show xcnt (fun d => !decide (g (a + 1) (4 * (s + d) + 3) = -9)) (j + 1) = xcnt (fun d => !decide (g (a + 1) (4 * (s + d) + 3) = -9)) j + 1 from by simp [xcnt_s, g9, g20]] at ih2; exact ih2)
    · have g20 := xf_eq h20
      refine xS.s1 rfl rfl ?_
      try dsimp only [Nat.reduceAdd, xi_1]
      rw [nI_1]
      refine xS.s1 rfl rfl ?_
      try dsimp only [Nat.reduceAdd, xi_1]
      rw [nI_1]
      refine xS.s1 rfl rfl ?_
      try dsimp only [Nat.reduceAdd]
      refine xS.pick [0, 1, 2] rfl ?_
      have ih2 := ih () (by omega) trivial
      first | (rw [show xcnt (fun d => !decide (g (a + 1) (4 * (s + d) + 3) = -9)) (j + 1) = xcnt (fun d => !decide (g (a + 1) (4 * (s + d) + 3) = -9)) j from by simp [xcnt_s, g9, g20]] at ih2; exact ih2) | (rw [show xcnt (fun d => !decide (g (a + 1) (4 * (s + d) + 3) = -9)) (j + 1) = xcnt (fun d => !decide (g (a + 1) (4 * (s + d) + 3) = -9)) j + 1 from by simp [xcnt_s, g9, g20]] at ih2; exact ih2)

set_option maxRecDepth 10000 in
theorem c_X2_firstThatBroke (hC : xde a) (hs : g a 1 = nI m) (hm : m ≤ 40) : xT (k + 2) 35 [.ref a] (xH b g l) (fun r M' => M' = xH b g l ∧ r = some (.int (xfI (xfst (fun d => !decide (g (a + 1) (4 * d + 3) = -9)) m)))) := by
  refine xT.of rfl (Nat.le_of_ble_eq_true rfl) ?_
  dsimp only [lv_args]
  refine xS.s1 rfl rfl ?_
  try dsimp only [Nat.reduceAdd, xi_0]
  refine xS.s1 rfl rfl ?_
  try dsimp only [Nat.reduceAdd]
  refine xS.pick [0, 1] rfl ?_
  refine xS.loop (σ := Unit) (m) (fun j S => [(1, .int (nI j)), (0, .ref a)]) (fun _ _ => xH b g l) (fun j _ => xfst (fun d => !decide (g (a + 1) (4 * d + 3) = -9)) j = none) (()) (rfl) (rfl) (rfl) ?_
  intro j S hj hI ih
  try dsimp only
  refine xS.s1 rfl rfl ?_
  try dsimp only [Nat.reduceAdd]
  refine xS.s1 rfl rfl ?_
  try dsimp only [Nat.reduceAdd]
  refine xS.gI rfl (hC.1 _) rfl ⟨by decide, rfl⟩ rfl ?_
  try dsimp only [Nat.reduceAdd]
  refine xS.br (c := .ge) (off := 22) (l := 3) rfl rfl (fun h7 => ?_) (fun h7 => ?_)
  · have g7 := xt_ge h7
    refine xS.s1 rfl rfl ?_
    try dsimp only [Nat.reduceAdd, xj_m9]
    refine xS.ret rfl rfl rfl (fun _ _ => rfl) ?_
    rw [hs] at g7
    have e := xnle g7 (by omega) (by omega)
    rw [show m = j by omega, hI]
    exact ⟨rfl, rfl⟩
  · have g7 := xf_ge h7
    rw [hs] at g7
    have hlt := xnlt g7 (by omega) (by omega)
    refine xS.s1 rfl rfl ?_
    try dsimp only [Nat.reduceAdd]
    refine xS.s1 rfl rfl ?_
    try dsimp only [Nat.reduceAdd]
    refine xS.s1 rfl rfl ?_
    try dsimp only [Nat.reduceAdd, xi_3]
    -- 13 yX2_fact
    refine xS.cv rfl rfl rfl (hC.1 _) rfl rfl ⟨by decide, rfl, rfl⟩ (c_X2_fact (t := 3) hC hs hm hlt (by decide)) (fun v M1 hv => ?_)
    rw [hv.1, hv.2]
    clear hv M1 v
    try dsimp only [Nat.reduceAdd, Option.toList, List.cons_append, List.nil_append, List.drop]
    refine xS.s1 rfl rfl ?_
    try dsimp only [Nat.reduceAdd, xj_m9]
    refine xS.br (c := .eq) (off := 5) (l := 3) rfl rfl (fun h18 => ?_) (fun h18 => ?_)
    · have g18 := xt_eq h18
      refine xS.s1 rfl rfl ?_
      try dsimp only [Nat.reduceAdd, xi_1]
      rw [nI_1]
      refine xS.s1 rfl rfl ?_
      try dsimp only [Nat.reduceAdd]
      refine xS.pick [0, 1] rfl ?_
      exact ih () (by omega) (xfst_n hI (by simp [g18]))
    · have g18 := xf_eq h18
      refine xS.s1 rfl rfl ?_
      try dsimp only [Nat.reduceAdd]
      refine xS.ret rfl rfl rfl (fun _ _ => rfl) ?_
      rw [xfst_at hI (by simp [g18]) hlt]
      exact ⟨rfl, rfl⟩

def xsrc (κ δ i : Nat) : Option Nat := if κ = 1 then (if i < δ then none else some (i - δ)) else if κ = 4 then (if i % 3 = 2 then none else if i < δ then none else some (i - δ)) else if κ = 2 then (if i % 2 = 1 then none else some i) else some i
def xoI (o : Option Nat) : Int32 := match o with
  | none => -1
  | some d => nI d
def xth (κ i : Nat) : Bool := decide (κ = 3) || (decide (κ = 5) && decide (i % 2 = 1))
def xmir (x : Int32) : Int32 := if x = 1 ∨ x = 2 then 3 - x else x
def xseen (h : Nat → Int32) (κ i s : Nat) : Int32 := xmir (bif xth κ i then h s else nI s)
def xshw (h : Nat → Int32) (κ δ : Nat) (f : Nat → Nat) (i : Nat) : Int32 := match xsrc κ δ i with
  | none => 0
  | some s => xseen h κ i (f s)
def xpn (g : Nat → Nat → Int32) : Prop := ∀ L, L < 24 → g (43 + L) 0 = nI (L / 4) ∧ g (43 + L) 1 = nI (L % 4)
theorem xpsh : ∀ {L : Nat}, L < 24 → (L / 4 = 0 ∧ xob (43 + L) 6 [.int 0, .int 0]) ∨ (L / 4 = 1 ∧ xob (43 + L) 4 [.int 0, .int 0]) ∨ (L / 4 = 2 ∧ xob (43 + L) 8 [.int 0, .int 0]) ∨ (L / 4 = 3 ∧ xob (43 + L) 9 [.int 0, .int 0]) ∨ (L / 4 = 4 ∧ xob (43 + L) 5 [.int 0, .int 0]) ∨ (L / 4 = 5 ∧ xob (43 + L) 3 [.int 0, .int 0])
  | 0, _ | 1, _ | 2, _ | 3, _ => Or.inl ⟨rfl, fun _ => rfl⟩
  | 4, _ | 5, _ | 6, _ | 7, _ => Or.inr (Or.inl ⟨rfl, fun _ => rfl⟩)
  | 8, _ | 9, _ | 10, _ | 11, _ => Or.inr (Or.inr (Or.inl ⟨rfl, fun _ => rfl⟩))
  | 12, _ | 13, _ | 14, _ | 15, _ => Or.inr (Or.inr (Or.inr (Or.inl ⟨rfl, fun _ => rfl⟩)))
  | 16, _ | 17, _ | 18, _ | 19, _ => Or.inr (Or.inr (Or.inr (Or.inr (Or.inl ⟨rfl, fun _ => rfl⟩))))
  | 20, _ | 21, _ | 22, _ | 23, _ => Or.inr (Or.inr (Or.inr (Or.inr (Or.inr ⟨rfl, fun _ => rfl⟩))))
  | _ + 24, h => absurd h (by omega)
theorem xand1 {t : Nat} (h : t < 2 ^ 32) : nI t &&& 1 = nI (t % 2) := pk_andN h 1 rfl

set_option maxRecDepth 10000 in
theorem c_X7_kind_3 (hC : xob a 3 [.int 0, .int 0]) : xT (k + 1) 48 [.ref a] (xH b g l) (fun r M' => M' = xH b g l ∧ r = some (.int (g a 0))) := by
  refine xT.of rfl (Nat.le_of_ble_eq_true rfl) ?_
  dsimp only [lv_args]
  refine xS.s1 rfl rfl ?_
  try dsimp only [Nat.reduceAdd]
  refine xS.gI rfl (hC _) rfl ⟨by decide, rfl⟩ rfl ?_
  try dsimp only [Nat.reduceAdd]
  refine xS.ret rfl rfl rfl (fun _ _ => rfl) ?_
  exact ⟨rfl, rfl⟩

set_option maxRecDepth 10000 in
theorem c_X7_delay_3 (hC : xob a 3 [.int 0, .int 0]) : xT (k + 1) 49 [.ref a] (xH b g l) (fun r M' => M' = xH b g l ∧ r = some (.int (g a 1))) := by
  refine xT.of rfl (Nat.le_of_ble_eq_true rfl) ?_
  dsimp only [lv_args]
  refine xS.s1 rfl rfl ?_
  try dsimp only [Nat.reduceAdd]
  refine xS.gI rfl (hC _) rfl ⟨by decide, rfl⟩ rfl ?_
  try dsimp only [Nat.reduceAdd]
  refine xS.ret rfl rfl rfl (fun _ _ => rfl) ?_
  exact ⟨rfl, rfl⟩

set_option maxRecDepth 10000 in
theorem c_X7_isOf_3 (hC : xob a 3 [.int 0, .int 0]) : xT (k + 1) 50 [.ref a, .int x] (xH b g l) (fun r M' => M' = xH b g l ∧ r = some (.int (if x = g a 0 ∨ x = 0 then 1 else 0))) := by
  refine xT.of rfl (Nat.le_of_ble_eq_true rfl) ?_
  dsimp only [lv_args]
  refine xS.s1 rfl rfl ?_
  try dsimp only [Nat.reduceAdd]
  refine xS.s1 rfl rfl ?_
  try dsimp only [Nat.reduceAdd]
  refine xS.gI rfl (hC _) rfl ⟨by decide, rfl⟩ rfl ?_
  try dsimp only [Nat.reduceAdd]
  refine xS.br (c := .eq) (off := 7) (l := 3) rfl rfl (fun h5 => ?_) (fun h5 => ?_)
  · have g5 := xt_eq h5
    refine xS.s1 rfl rfl ?_
    try dsimp only [Nat.reduceAdd, xi_1]
    refine xS.s1 rfl rfl ?_
    try dsimp only [Nat.reduceAdd]
    refine xS.ret rfl rfl rfl (fun _ _ => rfl) ?_
    exact ⟨rfl, by split <;> first | rfl | (exfalso; simp_all)⟩
  · have g5 := xf_eq h5
    refine xS.s1 rfl rfl ?_
    try dsimp only [Nat.reduceAdd]
    refine xS.br0 (c := .ne) (off := 7) (l := 3) rfl rfl (fun h9 => ?_) (fun h9 => ?_)
    · have g9 := xt_ne h9
      refine xS.s1 rfl rfl ?_
      try dsimp only [Nat.reduceAdd, xi_0]
      refine xS.ret rfl rfl rfl (fun _ _ => rfl) ?_
      exact ⟨rfl, by split <;> first | rfl | (exfalso; simp_all)⟩
    · have g9 := xf_ne h9
      refine xS.s1 rfl rfl ?_
      try dsimp only [Nat.reduceAdd, xi_1]
      refine xS.s1 rfl rfl ?_
      try dsimp only [Nat.reduceAdd]
      refine xS.ret rfl rfl rfl (fun _ _ => rfl) ?_
      exact ⟨rfl, by split <;> first | rfl | (exfalso; simp_all)⟩

set_option maxRecDepth 10000 in
theorem c_X7_kind_4 (hC : xob a 4 [.int 0, .int 0]) : xT (k + 1) 48 [.ref a] (xH b g l) (fun r M' => M' = xH b g l ∧ r = some (.int (g a 0))) := by
  refine xT.of rfl (Nat.le_of_ble_eq_true rfl) ?_
  dsimp only [lv_args]
  refine xS.s1 rfl rfl ?_
  try dsimp only [Nat.reduceAdd]
  refine xS.gI rfl (hC _) rfl ⟨by decide, rfl⟩ rfl ?_
  try dsimp only [Nat.reduceAdd]
  refine xS.ret rfl rfl rfl (fun _ _ => rfl) ?_
  exact ⟨rfl, rfl⟩

set_option maxRecDepth 10000 in
theorem c_X7_delay_4 (hC : xob a 4 [.int 0, .int 0]) : xT (k + 1) 49 [.ref a] (xH b g l) (fun r M' => M' = xH b g l ∧ r = some (.int (g a 1))) := by
  refine xT.of rfl (Nat.le_of_ble_eq_true rfl) ?_
  dsimp only [lv_args]
  refine xS.s1 rfl rfl ?_
  try dsimp only [Nat.reduceAdd]
  refine xS.gI rfl (hC _) rfl ⟨by decide, rfl⟩ rfl ?_
  try dsimp only [Nat.reduceAdd]
  refine xS.ret rfl rfl rfl (fun _ _ => rfl) ?_
  exact ⟨rfl, rfl⟩

set_option maxRecDepth 10000 in
theorem c_X7_isOf_4 (hC : xob a 4 [.int 0, .int 0]) : xT (k + 1) 50 [.ref a, .int x] (xH b g l) (fun r M' => M' = xH b g l ∧ r = some (.int (if x = g a 0 ∨ x = 0 then 1 else 0))) := by
  refine xT.of rfl (Nat.le_of_ble_eq_true rfl) ?_
  dsimp only [lv_args]
  refine xS.s1 rfl rfl ?_
  try dsimp only [Nat.reduceAdd]
  refine xS.s1 rfl rfl ?_
  try dsimp only [Nat.reduceAdd]
  refine xS.gI rfl (hC _) rfl ⟨by decide, rfl⟩ rfl ?_
  try dsimp only [Nat.reduceAdd]
  refine xS.br (c := .eq) (off := 7) (l := 3) rfl rfl (fun h5 => ?_) (fun h5 => ?_)
  · have g5 := xt_eq h5
    refine xS.s1 rfl rfl ?_
    try dsimp only [Nat.reduceAdd, xi_1]
    refine xS.s1 rfl rfl ?_
    try dsimp only [Nat.reduceAdd]
    refine xS.ret rfl rfl rfl (fun _ _ => rfl) ?_
    exact ⟨rfl, by split <;> first | rfl | (exfalso; simp_all)⟩
  · have g5 := xf_eq h5
    refine xS.s1 rfl rfl ?_
    try dsimp only [Nat.reduceAdd]
    refine xS.br0 (c := .ne) (off := 7) (l := 3) rfl rfl (fun h9 => ?_) (fun h9 => ?_)
    · have g9 := xt_ne h9
      refine xS.s1 rfl rfl ?_
      try dsimp only [Nat.reduceAdd, xi_0]
      refine xS.ret rfl rfl rfl (fun _ _ => rfl) ?_
      exact ⟨rfl, by split <;> first | rfl | (exfalso; simp_all)⟩
    · have g9 := xf_ne h9
      refine xS.s1 rfl rfl ?_
      try dsimp only [Nat.reduceAdd, xi_1]
      refine xS.s1 rfl rfl ?_
      try dsimp only [Nat.reduceAdd]
      refine xS.ret rfl rfl rfl (fun _ _ => rfl) ?_
      exact ⟨rfl, by split <;> first | rfl | (exfalso; simp_all)⟩

set_option maxRecDepth 10000 in
theorem c_X7_kind_5 (hC : xob a 5 [.int 0, .int 0]) : xT (k + 1) 48 [.ref a] (xH b g l) (fun r M' => M' = xH b g l ∧ r = some (.int (g a 0))) := by
  refine xT.of rfl (Nat.le_of_ble_eq_true rfl) ?_
  dsimp only [lv_args]
  refine xS.s1 rfl rfl ?_
  try dsimp only [Nat.reduceAdd]
  refine xS.gI rfl (hC _) rfl ⟨by decide, rfl⟩ rfl ?_
  try dsimp only [Nat.reduceAdd]
  refine xS.ret rfl rfl rfl (fun _ _ => rfl) ?_
  exact ⟨rfl, rfl⟩

set_option maxRecDepth 10000 in
theorem c_X7_delay_5 (hC : xob a 5 [.int 0, .int 0]) : xT (k + 1) 49 [.ref a] (xH b g l) (fun r M' => M' = xH b g l ∧ r = some (.int (g a 1))) := by
  refine xT.of rfl (Nat.le_of_ble_eq_true rfl) ?_
  dsimp only [lv_args]
  refine xS.s1 rfl rfl ?_
  try dsimp only [Nat.reduceAdd]
  refine xS.gI rfl (hC _) rfl ⟨by decide, rfl⟩ rfl ?_
  try dsimp only [Nat.reduceAdd]
  refine xS.ret rfl rfl rfl (fun _ _ => rfl) ?_
  exact ⟨rfl, rfl⟩

set_option maxRecDepth 10000 in
theorem c_X7_isOf_5 (hC : xob a 5 [.int 0, .int 0]) : xT (k + 1) 50 [.ref a, .int x] (xH b g l) (fun r M' => M' = xH b g l ∧ r = some (.int (if x = g a 0 ∨ x = 0 then 1 else 0))) := by
  refine xT.of rfl (Nat.le_of_ble_eq_true rfl) ?_
  dsimp only [lv_args]
  refine xS.s1 rfl rfl ?_
  try dsimp only [Nat.reduceAdd]
  refine xS.s1 rfl rfl ?_
  try dsimp only [Nat.reduceAdd]
  refine xS.gI rfl (hC _) rfl ⟨by decide, rfl⟩ rfl ?_
  try dsimp only [Nat.reduceAdd]
  refine xS.br (c := .eq) (off := 7) (l := 3) rfl rfl (fun h5 => ?_) (fun h5 => ?_)
  · have g5 := xt_eq h5
    refine xS.s1 rfl rfl ?_
    try dsimp only [Nat.reduceAdd, xi_1]
    refine xS.s1 rfl rfl ?_
    try dsimp only [Nat.reduceAdd]
    refine xS.ret rfl rfl rfl (fun _ _ => rfl) ?_
    exact ⟨rfl, by split <;> first | rfl | (exfalso; simp_all)⟩
  · have g5 := xf_eq h5
    refine xS.s1 rfl rfl ?_
    try dsimp only [Nat.reduceAdd]
    refine xS.br0 (c := .ne) (off := 7) (l := 3) rfl rfl (fun h9 => ?_) (fun h9 => ?_)
    · have g9 := xt_ne h9
      refine xS.s1 rfl rfl ?_
      try dsimp only [Nat.reduceAdd, xi_0]
      refine xS.ret rfl rfl rfl (fun _ _ => rfl) ?_
      exact ⟨rfl, by split <;> first | rfl | (exfalso; simp_all)⟩
    · have g9 := xf_ne h9
      refine xS.s1 rfl rfl ?_
      try dsimp only [Nat.reduceAdd, xi_1]
      refine xS.s1 rfl rfl ?_
      try dsimp only [Nat.reduceAdd]
      refine xS.ret rfl rfl rfl (fun _ _ => rfl) ?_
      exact ⟨rfl, by split <;> first | rfl | (exfalso; simp_all)⟩

set_option maxRecDepth 10000 in
theorem c_X7_kind_6 (hC : xob a 6 [.int 0, .int 0]) : xT (k + 1) 48 [.ref a] (xH b g l) (fun r M' => M' = xH b g l ∧ r = some (.int (g a 0))) := by
  refine xT.of rfl (Nat.le_of_ble_eq_true rfl) ?_
  dsimp only [lv_args]
  refine xS.s1 rfl rfl ?_
  try dsimp only [Nat.reduceAdd]
  refine xS.gI rfl (hC _) rfl ⟨by decide, rfl⟩ rfl ?_
  try dsimp only [Nat.reduceAdd]
  refine xS.ret rfl rfl rfl (fun _ _ => rfl) ?_
  exact ⟨rfl, rfl⟩

set_option maxRecDepth 10000 in
theorem c_X7_delay_6 (hC : xob a 6 [.int 0, .int 0]) : xT (k + 1) 49 [.ref a] (xH b g l) (fun r M' => M' = xH b g l ∧ r = some (.int (g a 1))) := by
  refine xT.of rfl (Nat.le_of_ble_eq_true rfl) ?_
  dsimp only [lv_args]
  refine xS.s1 rfl rfl ?_
  try dsimp only [Nat.reduceAdd]
  refine xS.gI rfl (hC _) rfl ⟨by decide, rfl⟩ rfl ?_
  try dsimp only [Nat.reduceAdd]
  refine xS.ret rfl rfl rfl (fun _ _ => rfl) ?_
  exact ⟨rfl, rfl⟩

set_option maxRecDepth 10000 in
theorem c_X7_isOf_6 (hC : xob a 6 [.int 0, .int 0]) : xT (k + 1) 50 [.ref a, .int x] (xH b g l) (fun r M' => M' = xH b g l ∧ r = some (.int (if x = g a 0 ∨ x = 0 then 1 else 0))) := by
  refine xT.of rfl (Nat.le_of_ble_eq_true rfl) ?_
  dsimp only [lv_args]
  refine xS.s1 rfl rfl ?_
  try dsimp only [Nat.reduceAdd]
  refine xS.s1 rfl rfl ?_
  try dsimp only [Nat.reduceAdd]
  refine xS.gI rfl (hC _) rfl ⟨by decide, rfl⟩ rfl ?_
  try dsimp only [Nat.reduceAdd]
  refine xS.br (c := .eq) (off := 7) (l := 3) rfl rfl (fun h5 => ?_) (fun h5 => ?_)
  · have g5 := xt_eq h5
    refine xS.s1 rfl rfl ?_
    try dsimp only [Nat.reduceAdd, xi_1]
    refine xS.s1 rfl rfl ?_
    try dsimp only [Nat.reduceAdd]
    refine xS.ret rfl rfl rfl (fun _ _ => rfl) ?_
    exact ⟨rfl, by split <;> first | rfl | (exfalso; simp_all)⟩
  · have g5 := xf_eq h5
    refine xS.s1 rfl rfl ?_
    try dsimp only [Nat.reduceAdd]
    refine xS.br0 (c := .ne) (off := 7) (l := 3) rfl rfl (fun h9 => ?_) (fun h9 => ?_)
    · have g9 := xt_ne h9
      refine xS.s1 rfl rfl ?_
      try dsimp only [Nat.reduceAdd, xi_0]
      refine xS.ret rfl rfl rfl (fun _ _ => rfl) ?_
      exact ⟨rfl, by split <;> first | rfl | (exfalso; simp_all)⟩
    · have g9 := xf_ne h9
      refine xS.s1 rfl rfl ?_
      try dsimp only [Nat.reduceAdd, xi_1]
      refine xS.s1 rfl rfl ?_
      try dsimp only [Nat.reduceAdd]
      refine xS.ret rfl rfl rfl (fun _ _ => rfl) ?_
      exact ⟨rfl, by split <;> first | rfl | (exfalso; simp_all)⟩

set_option maxRecDepth 10000 in
theorem c_X7_kind_8 (hC : xob a 8 [.int 0, .int 0]) : xT (k + 1) 48 [.ref a] (xH b g l) (fun r M' => M' = xH b g l ∧ r = some (.int (g a 0))) := by
  refine xT.of rfl (Nat.le_of_ble_eq_true rfl) ?_
  dsimp only [lv_args]
  refine xS.s1 rfl rfl ?_
  try dsimp only [Nat.reduceAdd]
  refine xS.gI rfl (hC _) rfl ⟨by decide, rfl⟩ rfl ?_
  try dsimp only [Nat.reduceAdd]
  refine xS.ret rfl rfl rfl (fun _ _ => rfl) ?_
  exact ⟨rfl, rfl⟩

set_option maxRecDepth 10000 in
theorem c_X7_delay_8 (hC : xob a 8 [.int 0, .int 0]) : xT (k + 1) 49 [.ref a] (xH b g l) (fun r M' => M' = xH b g l ∧ r = some (.int (g a 1))) := by
  refine xT.of rfl (Nat.le_of_ble_eq_true rfl) ?_
  dsimp only [lv_args]
  refine xS.s1 rfl rfl ?_
  try dsimp only [Nat.reduceAdd]
  refine xS.gI rfl (hC _) rfl ⟨by decide, rfl⟩ rfl ?_
  try dsimp only [Nat.reduceAdd]
  refine xS.ret rfl rfl rfl (fun _ _ => rfl) ?_
  exact ⟨rfl, rfl⟩

set_option maxRecDepth 10000 in
theorem c_X7_isOf_8 (hC : xob a 8 [.int 0, .int 0]) : xT (k + 1) 50 [.ref a, .int x] (xH b g l) (fun r M' => M' = xH b g l ∧ r = some (.int (if x = g a 0 ∨ x = 0 then 1 else 0))) := by
  refine xT.of rfl (Nat.le_of_ble_eq_true rfl) ?_
  dsimp only [lv_args]
  refine xS.s1 rfl rfl ?_
  try dsimp only [Nat.reduceAdd]
  refine xS.s1 rfl rfl ?_
  try dsimp only [Nat.reduceAdd]
  refine xS.gI rfl (hC _) rfl ⟨by decide, rfl⟩ rfl ?_
  try dsimp only [Nat.reduceAdd]
  refine xS.br (c := .eq) (off := 7) (l := 3) rfl rfl (fun h5 => ?_) (fun h5 => ?_)
  · have g5 := xt_eq h5
    refine xS.s1 rfl rfl ?_
    try dsimp only [Nat.reduceAdd, xi_1]
    refine xS.s1 rfl rfl ?_
    try dsimp only [Nat.reduceAdd]
    refine xS.ret rfl rfl rfl (fun _ _ => rfl) ?_
    exact ⟨rfl, by split <;> first | rfl | (exfalso; simp_all)⟩
  · have g5 := xf_eq h5
    refine xS.s1 rfl rfl ?_
    try dsimp only [Nat.reduceAdd]
    refine xS.br0 (c := .ne) (off := 7) (l := 3) rfl rfl (fun h9 => ?_) (fun h9 => ?_)
    · have g9 := xt_ne h9
      refine xS.s1 rfl rfl ?_
      try dsimp only [Nat.reduceAdd, xi_0]
      refine xS.ret rfl rfl rfl (fun _ _ => rfl) ?_
      exact ⟨rfl, by split <;> first | rfl | (exfalso; simp_all)⟩
    · have g9 := xf_ne h9
      refine xS.s1 rfl rfl ?_
      try dsimp only [Nat.reduceAdd, xi_1]
      refine xS.s1 rfl rfl ?_
      try dsimp only [Nat.reduceAdd]
      refine xS.ret rfl rfl rfl (fun _ _ => rfl) ?_
      exact ⟨rfl, by split <;> first | rfl | (exfalso; simp_all)⟩

set_option maxRecDepth 10000 in
theorem c_X7_kind_9 (hC : xob a 9 [.int 0, .int 0]) : xT (k + 1) 48 [.ref a] (xH b g l) (fun r M' => M' = xH b g l ∧ r = some (.int (g a 0))) := by
  refine xT.of rfl (Nat.le_of_ble_eq_true rfl) ?_
  dsimp only [lv_args]
  refine xS.s1 rfl rfl ?_
  try dsimp only [Nat.reduceAdd]
  refine xS.gI rfl (hC _) rfl ⟨by decide, rfl⟩ rfl ?_
  try dsimp only [Nat.reduceAdd]
  refine xS.ret rfl rfl rfl (fun _ _ => rfl) ?_
  exact ⟨rfl, rfl⟩

set_option maxRecDepth 10000 in
theorem c_X7_delay_9 (hC : xob a 9 [.int 0, .int 0]) : xT (k + 1) 49 [.ref a] (xH b g l) (fun r M' => M' = xH b g l ∧ r = some (.int (g a 1))) := by
  refine xT.of rfl (Nat.le_of_ble_eq_true rfl) ?_
  dsimp only [lv_args]
  refine xS.s1 rfl rfl ?_
  try dsimp only [Nat.reduceAdd]
  refine xS.gI rfl (hC _) rfl ⟨by decide, rfl⟩ rfl ?_
  try dsimp only [Nat.reduceAdd]
  refine xS.ret rfl rfl rfl (fun _ _ => rfl) ?_
  exact ⟨rfl, rfl⟩

set_option maxRecDepth 10000 in
theorem c_X7_isOf_9 (hC : xob a 9 [.int 0, .int 0]) : xT (k + 1) 50 [.ref a, .int x] (xH b g l) (fun r M' => M' = xH b g l ∧ r = some (.int (if x = g a 0 ∨ x = 0 then 1 else 0))) := by
  refine xT.of rfl (Nat.le_of_ble_eq_true rfl) ?_
  dsimp only [lv_args]
  refine xS.s1 rfl rfl ?_
  try dsimp only [Nat.reduceAdd]
  refine xS.s1 rfl rfl ?_
  try dsimp only [Nat.reduceAdd]
  refine xS.gI rfl (hC _) rfl ⟨by decide, rfl⟩ rfl ?_
  try dsimp only [Nat.reduceAdd]
  refine xS.br (c := .eq) (off := 7) (l := 3) rfl rfl (fun h5 => ?_) (fun h5 => ?_)
  · have g5 := xt_eq h5
    refine xS.s1 rfl rfl ?_
    try dsimp only [Nat.reduceAdd, xi_1]
    refine xS.s1 rfl rfl ?_
    try dsimp only [Nat.reduceAdd]
    refine xS.ret rfl rfl rfl (fun _ _ => rfl) ?_
    exact ⟨rfl, by split <;> first | rfl | (exfalso; simp_all)⟩
  · have g5 := xf_eq h5
    refine xS.s1 rfl rfl ?_
    try dsimp only [Nat.reduceAdd]
    refine xS.br0 (c := .ne) (off := 7) (l := 3) rfl rfl (fun h9 => ?_) (fun h9 => ?_)
    · have g9 := xt_ne h9
      refine xS.s1 rfl rfl ?_
      try dsimp only [Nat.reduceAdd, xi_0]
      refine xS.ret rfl rfl rfl (fun _ _ => rfl) ?_
      exact ⟨rfl, by split <;> first | rfl | (exfalso; simp_all)⟩
    · have g9 := xf_ne h9
      refine xS.s1 rfl rfl ?_
      try dsimp only [Nat.reduceAdd, xi_1]
      refine xS.s1 rfl rfl ?_
      try dsimp only [Nat.reduceAdd]
      refine xS.ret rfl rfl rfl (fun _ _ => rfl) ?_
      exact ⟨rfl, by split <;> first | rfl | (exfalso; simp_all)⟩

set_option maxRecDepth 10000 in
theorem c_X7_source  : xT (k + 1) 51 [.ref a, .int x] (xH b g l) (fun r M' => M' = xH b g l ∧ r = some (.int (x))) := by
  refine xT.of rfl (Nat.le_of_ble_eq_true rfl) ?_
  dsimp only [lv_args]
  refine xS.s1 rfl rfl ?_
  try dsimp only [Nat.reduceAdd]
  refine xS.ret rfl rfl rfl (fun _ _ => rfl) ?_
  exact ⟨rfl, rfl⟩

set_option maxRecDepth 10000 in
theorem c_X4_source  : xT (k + 1) 39 [.ref a, .int x] (xH b g l) (fun r M' => M' = xH b g l ∧ r = some (.int (x))) := by
  refine xT.of rfl (Nat.le_of_ble_eq_true rfl) ?_
  dsimp only [lv_args]
  refine xS.s1 rfl rfl ?_
  try dsimp only [Nat.reduceAdd]
  refine xS.ret rfl rfl rfl (fun _ _ => rfl) ?_
  exact ⟨rfl, rfl⟩

set_option maxRecDepth 10000 in
theorem c_X7_thinks  : xT (k + 1) 52 [.ref a, .int x] (xH b g l) (fun r M' => M' = xH b g l ∧ r = some (.int (0))) := by
  refine xT.of rfl (Nat.le_of_ble_eq_true rfl) ?_
  dsimp only [lv_args]
  refine xS.s1 rfl rfl ?_
  try dsimp only [Nat.reduceAdd, xi_0]
  refine xS.ret rfl rfl rfl (fun _ _ => rfl) ?_
  exact ⟨rfl, rfl⟩

set_option maxRecDepth 10000 in
theorem c_X10_thinks  : xT (k + 1) 76 [.ref a, .int x] (xH b g l) (fun r M' => M' = xH b g l ∧ r = some (.int (1))) := by
  refine xT.of rfl (Nat.le_of_ble_eq_true rfl) ?_
  dsimp only [lv_args]
  refine xS.s1 rfl rfl ?_
  try dsimp only [Nat.reduceAdd, xi_1]
  refine xS.ret rfl rfl rfl (fun _ _ => rfl) ?_
  exact ⟨rfl, rfl⟩

theorem xodd {t : Nat} (h : t < 2 ^ 31) : nI t &&& 1 = 1 ↔ t % 2 = 1 := by
  rw [xand1 (by omega)]
  exact nI_eq (a := t % 2) (b := 1) (by omega) (by omega)

set_option maxRecDepth 10000 in
theorem c_X7_isOdd (ht : t < 2 ^ 31) : xT (k + 1) 53 [.int (nI t)] (xH b g l) (fun r M' => M' = xH b g l ∧ r = some (.int (if t % 2 = 1 then 1 else 0))) := by
  refine xT.of rfl (Nat.le_of_ble_eq_true rfl) ?_
  dsimp only [lv_args]
  refine xS.s1 rfl rfl ?_
  try dsimp only [Nat.reduceAdd]
  refine xS.s1 rfl rfl ?_
  try dsimp only [Nat.reduceAdd, xi_1]
  refine xS.s1 rfl rfl ?_
  try dsimp only [Nat.reduceAdd]
  refine xS.s1 rfl rfl ?_
  try dsimp only [Nat.reduceAdd, xi_1]
  refine xS.br (c := .ne) (off := 7) (l := 3) rfl rfl (fun h4 => ?_) (fun h4 => ?_)
  · have g4 := xt_ne h4
    refine xS.s1 rfl rfl ?_
    try dsimp only [Nat.reduceAdd, xi_0]
    refine xS.ret rfl rfl rfl (fun _ _ => rfl) ?_
    rw [xodd ht] at g4
    exact ⟨rfl, by simp [g4]⟩
  · have g4 := xf_ne h4
    refine xS.s1 rfl rfl ?_
    try dsimp only [Nat.reduceAdd, xi_1]
    refine xS.s1 rfl rfl ?_
    try dsimp only [Nat.reduceAdd]
    refine xS.ret rfl rfl rfl (fun _ _ => rfl) ?_
    rw [xodd ht] at g4
    exact ⟨rfl, by simp [g4]⟩

set_option maxRecDepth 10000 in
theorem c_X4_thinks (ht : t < 2 ^ 31) : xT (k + 2) 40 [.ref a, .int (nI t)] (xH b g l) (fun r M' => M' = xH b g l ∧ r = some (.int (if t % 2 = 1 then 1 else 0))) := by
  refine xT.of rfl (Nat.le_of_ble_eq_true rfl) ?_
  dsimp only [lv_args]
  refine xS.s1 rfl rfl ?_
  try dsimp only [Nat.reduceAdd]
  -- 1 yX7_isOdd
  refine xS.callO rfl rfl rfl ⟨Nat.le_of_ble_eq_true rfl, rfl⟩ (c_X7_isOdd ht) (fun v M1 hv => ?_)
  rw [hv.1, hv.2]
  clear hv M1 v
  try dsimp only [Nat.reduceAdd, Option.toList, List.cons_append, List.nil_append, List.drop]
  refine xS.retB rfl rfl ?_
  exact ⟨rfl, rfl⟩

set_option maxRecDepth 10000 in
theorem c_X9_source (ht : t < 2 ^ 31) : xT (k + 2) 73 [.ref a, .int (nI t)] (xH b g l) (fun r M' => M' = xH b g l ∧ r = some (.int (if t % 2 = 1 then -1 else nI t))) := by
  refine xT.of rfl (Nat.le_of_ble_eq_true rfl) ?_
  dsimp only [lv_args]
  refine xS.s1 rfl rfl ?_
  try dsimp only [Nat.reduceAdd]
  -- 1 yX7_isOdd
  refine xS.callO rfl rfl rfl ⟨Nat.le_of_ble_eq_true rfl, rfl⟩ (c_X7_isOdd ht) (fun v M1 hv => ?_)
  rw [hv.1, hv.2]
  clear hv M1 v
  try dsimp only [Nat.reduceAdd, Option.toList, List.cons_append, List.nil_append, List.drop]
  refine xS.br0 (c := .eq) (off := 7) (l := 3) rfl rfl (fun h4 => ?_) (fun h4 => ?_)
  · have g4 := xt_eq h4
    refine xS.s1 rfl rfl ?_
    try dsimp only [Nat.reduceAdd]
    refine xS.ret rfl rfl rfl (fun _ _ => rfl) ?_
    first | (rw [if_neg (xif0 g4)]; exact ⟨rfl, rfl⟩) | (rw [if_pos (xif1 g4)]; exact ⟨rfl, rfl⟩)
  · have g4 := xf_eq h4
    refine xS.s1 rfl rfl ?_
    try dsimp only [Nat.reduceAdd, xi_m1]
    refine xS.s1 rfl rfl ?_
    try dsimp only [Nat.reduceAdd]
    refine xS.ret rfl rfl rfl (fun _ _ => rfl) ?_
    first | (rw [if_neg (xif0 g4)]; exact ⟨rfl, rfl⟩) | (rw [if_pos (xif1 g4)]; exact ⟨rfl, rfl⟩)

theorem xrem3 {t : Nat} (h : t < 2 ^ 31) : nI t - nI t / 3 * 3 = nI (t % 3) := pk_rem (d := 3) h (by omega) (by omega)
theorem xlimp {t : Nat} : (2 : Int32) - nI (t % 3) = 0 ↔ t % 3 = 2 := by
  have h : t % 3 < 3 := Nat.mod_lt _ (by omega)
  generalize t % 3 = u at h
  match u, h with
  | 0, _ => decide
  | 1, _ => decide
  | 2, _ => decide

set_option maxRecDepth 10000 in
theorem c_X6_placesToLimp (ht : t < 2 ^ 31) : xT (k + 1) 46 [.int (nI t)] (xH b g l) (fun r M' => M' = xH b g l ∧ r = some (.int (2 - nI (t % 3)))) := by
  refine xT.of rfl (Nat.le_of_ble_eq_true rfl) ?_
  dsimp only [lv_args]
  refine xS.s1 rfl rfl ?_
  try dsimp only [Nat.reduceAdd, xi_2]
  refine xS.s1 rfl rfl ?_
  try dsimp only [Nat.reduceAdd]
  refine xS.s1 rfl rfl ?_
  try dsimp only [Nat.reduceAdd, xi_3]
  refine xS.s1 rfl rfl ?_
  try dsimp only [Nat.reduceAdd]
  refine xS.s1 rfl rfl ?_
  try dsimp only [Nat.reduceAdd]
  refine xS.ret rfl rfl rfl (fun _ _ => rfl) ?_
  rw [xrem3 ht]
  exact ⟨rfl, rfl⟩

set_option maxRecDepth 10000 in
theorem c_X5_source_4 (hC : xob a 4 [.int 0, .int 0]) (hd : g a 1 = nI d) (hd4 : d < 4) (ht : t < 2 ^ 30) : xT (k + 2) 42 [.ref a, .int (nI t)] (xH b g l) (fun r M' => M' = xH b g l ∧ r = some (.int (xoI (if t < d then none else some (t - d))))) := by
  refine xT.of rfl (Nat.le_of_ble_eq_true rfl) ?_
  dsimp only [lv_args]
  refine xS.s1 rfl rfl ?_
  try dsimp only [Nat.reduceAdd]
  refine xS.s1 rfl rfl ?_
  try dsimp only [Nat.reduceAdd]
  -- 2 yX7_delay
  refine xS.cv rfl rfl rfl (hC _) rfl rfl ⟨by decide, rfl, rfl⟩ (c_X7_delay_4 hC) (fun v M1 hv => ?_)
  rw [hv.1, hv.2]
  clear hv M1 v
  try dsimp only [Nat.reduceAdd, Option.toList, List.cons_append, List.nil_append, List.drop]
  refine xS.br (c := .ge) (off := 7) (l := 3) rfl rfl (fun h5 => ?_) (fun h5 => ?_)
  · have g5 := xt_ge h5
    refine xS.s1 rfl rfl ?_
    try dsimp only [Nat.reduceAdd]
    refine xS.s1 rfl rfl ?_
    try dsimp only [Nat.reduceAdd]
    -- 14 yX7_delay
    refine xS.cv rfl rfl rfl (hC _) rfl rfl ⟨by decide, rfl, rfl⟩ (c_X7_delay_4 hC) (fun v M1 hv => ?_)
    rw [hv.1, hv.2]
    clear hv M1 v
    try dsimp only [Nat.reduceAdd, Option.toList, List.cons_append, List.nil_append, List.drop]
    refine xS.s1 rfl rfl ?_
    try dsimp only [Nat.reduceAdd]
    refine xS.ret rfl rfl rfl (fun _ _ => rfl) ?_
    rw [hd] at g5
    have e := xnle g5 (by omega) (by omega)
    rw [if_neg (by omega), hd, pk_sub e]
    exact ⟨rfl, rfl⟩
  · have g5 := xf_ge h5
    refine xS.s1 rfl rfl ?_
    try dsimp only [Nat.reduceAdd, xi_m1]
    refine xS.s1 rfl rfl ?_
    try dsimp only [Nat.reduceAdd]
    refine xS.ret rfl rfl rfl (fun _ _ => rfl) ?_
    rw [hd] at g5
    have e := xnlt g5 (by omega) (by omega)
    rw [if_pos e]
    exact ⟨rfl, rfl⟩

set_option maxRecDepth 10000 in
theorem c_X5_source_5 (hC : xob a 5 [.int 0, .int 0]) (hd : g a 1 = nI d) (hd4 : d < 4) (ht : t < 2 ^ 30) : xT (k + 2) 42 [.ref a, .int (nI t)] (xH b g l) (fun r M' => M' = xH b g l ∧ r = some (.int (xoI (if t < d then none else some (t - d))))) := by
  refine xT.of rfl (Nat.le_of_ble_eq_true rfl) ?_
  dsimp only [lv_args]
  refine xS.s1 rfl rfl ?_
  try dsimp only [Nat.reduceAdd]
  refine xS.s1 rfl rfl ?_
  try dsimp only [Nat.reduceAdd]
  -- 2 yX7_delay
  refine xS.cv rfl rfl rfl (hC _) rfl rfl ⟨by decide, rfl, rfl⟩ (c_X7_delay_5 hC) (fun v M1 hv => ?_)
  rw [hv.1, hv.2]
  clear hv M1 v
  try dsimp only [Nat.reduceAdd, Option.toList, List.cons_append, List.nil_append, List.drop]
  refine xS.br (c := .ge) (off := 7) (l := 3) rfl rfl (fun h5 => ?_) (fun h5 => ?_)
  · have g5 := xt_ge h5
    refine xS.s1 rfl rfl ?_
    try dsimp only [Nat.reduceAdd]
    refine xS.s1 rfl rfl ?_
    try dsimp only [Nat.reduceAdd]
    -- 14 yX7_delay
    refine xS.cv rfl rfl rfl (hC _) rfl rfl ⟨by decide, rfl, rfl⟩ (c_X7_delay_5 hC) (fun v M1 hv => ?_)
    rw [hv.1, hv.2]
    clear hv M1 v
    try dsimp only [Nat.reduceAdd, Option.toList, List.cons_append, List.nil_append, List.drop]
    refine xS.s1 rfl rfl ?_
    try dsimp only [Nat.reduceAdd]
    refine xS.ret rfl rfl rfl (fun _ _ => rfl) ?_
    rw [hd] at g5
    have e := xnle g5 (by omega) (by omega)
    rw [if_neg (by omega), hd, pk_sub e]
    exact ⟨rfl, rfl⟩
  · have g5 := xf_ge h5
    refine xS.s1 rfl rfl ?_
    try dsimp only [Nat.reduceAdd, xi_m1]
    refine xS.s1 rfl rfl ?_
    try dsimp only [Nat.reduceAdd]
    refine xS.ret rfl rfl rfl (fun _ _ => rfl) ?_
    rw [hd] at g5
    have e := xnlt g5 (by omega) (by omega)
    rw [if_pos e]
    exact ⟨rfl, rfl⟩

set_option maxRecDepth 10000 in
theorem c_X6_source (hC : xob a 5 [.int 0, .int 0]) (hd : g a 1 = nI d) (hd4 : d < 4) (ht : t < 2 ^ 30) : xT (k + 3) 45 [.ref a, .int (nI t)] (xH b g l) (fun r M' => M' = xH b g l ∧ r = some (.int (xoI (if t % 3 = 2 then none else if t < d then none else some (t - d))))) := by
  refine xT.of rfl (Nat.le_of_ble_eq_true rfl) ?_
  dsimp only [lv_args]
  refine xS.s1 rfl rfl ?_
  try dsimp only [Nat.reduceAdd]
  -- 1 yX6_placesToLimp
  refine xS.callS rfl rfl rfl ⟨Nat.le_of_ble_eq_true rfl, rfl⟩ (c_X6_placesToLimp (by omega)) (fun v M1 hv => ?_)
  rw [hv.1, hv.2]
  clear hv M1 v
  try dsimp only [Nat.reduceAdd, Option.toList, List.cons_append, List.nil_append, List.drop]
  refine xS.br0 (c := .ne) (off := 7) (l := 3) rfl rfl (fun h4 => ?_) (fun h4 => ?_)
  · have g4 := xt_ne h4
    refine xS.s1 rfl rfl ?_
    try dsimp only [Nat.reduceAdd]
    refine xS.s1 rfl rfl ?_
    try dsimp only [Nat.reduceAdd]
    -- 13 yX5_source
    refine xS.csup rfl rfl rfl rfl (hC _) ⟨by decide, rfl⟩ (c_X5_source_5 hC hd hd4 ht) (fun v M1 hv => ?_)
    rw [hv.1, hv.2]
    clear hv M1 v
    try dsimp only [Nat.reduceAdd, Option.toList, List.cons_append, List.nil_append, List.drop]
    refine xS.ret rfl rfl rfl (fun _ _ => rfl) ?_
    rw [xlimp] at g4
    simp [g4]
  · have g4 := xf_ne h4
    refine xS.s1 rfl rfl ?_
    try dsimp only [Nat.reduceAdd, xi_m1]
    refine xS.s1 rfl rfl ?_
    try dsimp only [Nat.reduceAdd]
    refine xS.ret rfl rfl rfl (fun _ _ => rfl) ?_
    rw [xlimp] at g4
    simp [g4, xoI]

set_option maxRecDepth 10000 in
theorem c_X5_isOf_4 (hC : xob a 4 [.int 0, .int 0]) : xT (k + 2) 43 [.ref a, .int x] (xH b g l) (fun r M' => M' = xH b g l ∧ r = some (.int (if x = 1 ∨ x = g a 0 ∨ x = 0 then 1 else 0))) := by
  refine xT.of rfl (Nat.le_of_ble_eq_true rfl) ?_
  dsimp only [lv_args]
  refine xS.s1 rfl rfl ?_
  try dsimp only [Nat.reduceAdd]
  refine xS.s1 rfl rfl ?_
  try dsimp only [Nat.reduceAdd, xi_1]
  refine xS.br (c := .eq) (off := 11) (l := 3) rfl rfl (fun h2 => ?_) (fun h2 => ?_)
  · have g2 := xt_eq h2
    refine xS.s1 rfl rfl ?_
    try dsimp only [Nat.reduceAdd, xi_1]
    refine xS.s1 rfl rfl ?_
    try dsimp only [Nat.reduceAdd]
    refine xS.ret rfl rfl rfl (fun _ _ => rfl) ?_
    refine ⟨rfl, ?_⟩
    simp [g2]
  · have g2 := xf_eq h2
    refine xS.s1 rfl rfl ?_
    try dsimp only [Nat.reduceAdd]
    refine xS.s1 rfl rfl ?_
    try dsimp only [Nat.reduceAdd]
    -- 7 yX7_isOf
    refine xS.csup rfl rfl rfl rfl (hC _) ⟨by decide, rfl⟩ (c_X7_isOf_4 hC) (fun v M1 hv => ?_)
    rw [hv.1, hv.2]
    clear hv M1 v
    try dsimp only [Nat.reduceAdd, Option.toList, List.cons_append, List.nil_append, List.drop]
    refine xS.br0 (c := .eq) (off := 7) (l := 3) rfl rfl (fun h10 => ?_) (fun h10 => ?_)
    · have g10 := xt_eq h10
      refine xS.s1 rfl rfl ?_
      try dsimp only [Nat.reduceAdd, xi_0]
      refine xS.ret rfl rfl rfl (fun _ _ => rfl) ?_
      refine ⟨rfl, ?_⟩
      first | (have e := xif0 g10; simp [g2, e]; done) | (have e := xif1 g10; simp [e]; done)
    · have g10 := xf_eq h10
      refine xS.s1 rfl rfl ?_
      try dsimp only [Nat.reduceAdd, xi_1]
      refine xS.s1 rfl rfl ?_
      try dsimp only [Nat.reduceAdd]
      refine xS.ret rfl rfl rfl (fun _ _ => rfl) ?_
      refine ⟨rfl, ?_⟩
      first | (have e := xif0 g10; simp [g2, e]; done) | (have e := xif1 g10; simp [e]; done)

set_option maxRecDepth 10000 in
theorem c_X5_isOf_5 (hC : xob a 5 [.int 0, .int 0]) : xT (k + 2) 43 [.ref a, .int x] (xH b g l) (fun r M' => M' = xH b g l ∧ r = some (.int (if x = 1 ∨ x = g a 0 ∨ x = 0 then 1 else 0))) := by
  refine xT.of rfl (Nat.le_of_ble_eq_true rfl) ?_
  dsimp only [lv_args]
  refine xS.s1 rfl rfl ?_
  try dsimp only [Nat.reduceAdd]
  refine xS.s1 rfl rfl ?_
  try dsimp only [Nat.reduceAdd, xi_1]
  refine xS.br (c := .eq) (off := 11) (l := 3) rfl rfl (fun h2 => ?_) (fun h2 => ?_)
  · have g2 := xt_eq h2
    refine xS.s1 rfl rfl ?_
    try dsimp only [Nat.reduceAdd, xi_1]
    refine xS.s1 rfl rfl ?_
    try dsimp only [Nat.reduceAdd]
    refine xS.ret rfl rfl rfl (fun _ _ => rfl) ?_
    refine ⟨rfl, ?_⟩
    simp [g2]
  · have g2 := xf_eq h2
    refine xS.s1 rfl rfl ?_
    try dsimp only [Nat.reduceAdd]
    refine xS.s1 rfl rfl ?_
    try dsimp only [Nat.reduceAdd]
    -- 7 yX7_isOf
    refine xS.csup rfl rfl rfl rfl (hC _) ⟨by decide, rfl⟩ (c_X7_isOf_5 hC) (fun v M1 hv => ?_)
    rw [hv.1, hv.2]
    clear hv M1 v
    try dsimp only [Nat.reduceAdd, Option.toList, List.cons_append, List.nil_append, List.drop]
    refine xS.br0 (c := .eq) (off := 7) (l := 3) rfl rfl (fun h10 => ?_) (fun h10 => ?_)
    · have g10 := xt_eq h10
      refine xS.s1 rfl rfl ?_
      try dsimp only [Nat.reduceAdd, xi_0]
      refine xS.ret rfl rfl rfl (fun _ _ => rfl) ?_
      refine ⟨rfl, ?_⟩
      first | (have e := xif0 g10; simp [g2, e]; done) | (have e := xif1 g10; simp [e]; done)
    · have g10 := xf_eq h10
      refine xS.s1 rfl rfl ?_
      try dsimp only [Nat.reduceAdd, xi_1]
      refine xS.s1 rfl rfl ?_
      try dsimp only [Nat.reduceAdd]
      refine xS.ret rfl rfl rfl (fun _ _ => rfl) ?_
      refine ⟨rfl, ?_⟩
      first | (have e := xif0 g10; simp [g2, e]; done) | (have e := xif1 g10; simp [e]; done)

set_option maxRecDepth 10000 in
theorem c_X9_isOf_8 (hC : xob a 8 [.int 0, .int 0]) : xT (k + 2) 74 [.ref a, .int x] (xH b g l) (fun r M' => M' = xH b g l ∧ r = some (.int (if x = 2 ∨ x = g a 0 ∨ x = 0 then 1 else 0))) := by
  refine xT.of rfl (Nat.le_of_ble_eq_true rfl) ?_
  dsimp only [lv_args]
  refine xS.s1 rfl rfl ?_
  try dsimp only [Nat.reduceAdd]
  refine xS.s1 rfl rfl ?_
  try dsimp only [Nat.reduceAdd, xi_2]
  refine xS.br (c := .eq) (off := 11) (l := 3) rfl rfl (fun h2 => ?_) (fun h2 => ?_)
  · have g2 := xt_eq h2
    refine xS.s1 rfl rfl ?_
    try dsimp only [Nat.reduceAdd, xi_1]
    refine xS.s1 rfl rfl ?_
    try dsimp only [Nat.reduceAdd]
    refine xS.ret rfl rfl rfl (fun _ _ => rfl) ?_
    refine ⟨rfl, ?_⟩
    simp [g2]
  · have g2 := xf_eq h2
    refine xS.s1 rfl rfl ?_
    try dsimp only [Nat.reduceAdd]
    refine xS.s1 rfl rfl ?_
    try dsimp only [Nat.reduceAdd]
    -- 7 yX7_isOf
    refine xS.csup rfl rfl rfl rfl (hC _) ⟨by decide, rfl⟩ (c_X7_isOf_8 hC) (fun v M1 hv => ?_)
    rw [hv.1, hv.2]
    clear hv M1 v
    try dsimp only [Nat.reduceAdd, Option.toList, List.cons_append, List.nil_append, List.drop]
    refine xS.br0 (c := .eq) (off := 7) (l := 3) rfl rfl (fun h10 => ?_) (fun h10 => ?_)
    · have g10 := xt_eq h10
      refine xS.s1 rfl rfl ?_
      try dsimp only [Nat.reduceAdd, xi_0]
      refine xS.ret rfl rfl rfl (fun _ _ => rfl) ?_
      refine ⟨rfl, ?_⟩
      first | (have e := xif0 g10; simp [g2, e]; done) | (have e := xif1 g10; simp [e]; done)
    · have g10 := xf_eq h10
      refine xS.s1 rfl rfl ?_
      try dsimp only [Nat.reduceAdd, xi_1]
      refine xS.s1 rfl rfl ?_
      try dsimp only [Nat.reduceAdd]
      refine xS.ret rfl rfl rfl (fun _ _ => rfl) ?_
      refine ⟨rfl, ?_⟩
      first | (have e := xif0 g10; simp [g2, e]; done) | (have e := xif1 g10; simp [e]; done)

set_option maxRecDepth 10000 in
theorem c_X9_isOf_3 (hC : xob a 3 [.int 0, .int 0]) : xT (k + 2) 74 [.ref a, .int x] (xH b g l) (fun r M' => M' = xH b g l ∧ r = some (.int (if x = 2 ∨ x = g a 0 ∨ x = 0 then 1 else 0))) := by
  refine xT.of rfl (Nat.le_of_ble_eq_true rfl) ?_
  dsimp only [lv_args]
  refine xS.s1 rfl rfl ?_
  try dsimp only [Nat.reduceAdd]
  refine xS.s1 rfl rfl ?_
  try dsimp only [Nat.reduceAdd, xi_2]
  refine xS.br (c := .eq) (off := 11) (l := 3) rfl rfl (fun h2 => ?_) (fun h2 => ?_)
  · have g2 := xt_eq h2
    refine xS.s1 rfl rfl ?_
    try dsimp only [Nat.reduceAdd, xi_1]
    refine xS.s1 rfl rfl ?_
    try dsimp only [Nat.reduceAdd]
    refine xS.ret rfl rfl rfl (fun _ _ => rfl) ?_
    refine ⟨rfl, ?_⟩
    simp [g2]
  · have g2 := xf_eq h2
    refine xS.s1 rfl rfl ?_
    try dsimp only [Nat.reduceAdd]
    refine xS.s1 rfl rfl ?_
    try dsimp only [Nat.reduceAdd]
    -- 7 yX7_isOf
    refine xS.csup rfl rfl rfl rfl (hC _) ⟨by decide, rfl⟩ (c_X7_isOf_3 hC) (fun v M1 hv => ?_)
    rw [hv.1, hv.2]
    clear hv M1 v
    try dsimp only [Nat.reduceAdd, Option.toList, List.cons_append, List.nil_append, List.drop]
    refine xS.br0 (c := .eq) (off := 7) (l := 3) rfl rfl (fun h10 => ?_) (fun h10 => ?_)
    · have g10 := xt_eq h10
      refine xS.s1 rfl rfl ?_
      try dsimp only [Nat.reduceAdd, xi_0]
      refine xS.ret rfl rfl rfl (fun _ _ => rfl) ?_
      refine ⟨rfl, ?_⟩
      first | (have e := xif0 g10; simp [g2, e]; done) | (have e := xif1 g10; simp [e]; done)
    · have g10 := xf_eq h10
      refine xS.s1 rfl rfl ?_
      try dsimp only [Nat.reduceAdd, xi_1]
      refine xS.s1 rfl rfl ?_
      try dsimp only [Nat.reduceAdd]
      refine xS.ret rfl rfl rfl (fun _ _ => rfl) ?_
      refine ⟨rfl, ?_⟩
      first | (have e := xif0 g10; simp [g2, e]; done) | (have e := xif1 g10; simp [e]; done)

end
end
section
/-! calls of panes; what a room tells -/
def xiso (κ : Nat) (x : Int32) : Bool := decide (x = nI κ) || (decide (x = 0) || ((decide (κ = 4) && decide (x = 1)) || (decide (κ = 5) && decide (x = 2))))
theorem xfst_lt {p : Nat → Bool} : ∀ {n d : Nat}, xfst p n = some d → d < n ∧ p d = true
  | 0, _, h => by cases h
  | n + 1, d, h => by
    rw [xfst_s] at h
    cases e : xfst p n with
    | some d' =>
      rw [e] at h
      cases h
      have := xfst_lt e
      exact ⟨by omega, this.2⟩
    | none =>
      rw [e] at h
      cases hp : p n with
      | true => rw [hp] at h; cases h; exact ⟨by omega, hp⟩
      | false => rw [hp] at h; cases h
theorem xfI_none {o : Option Nat} (h : ∀ d, o = some d → d < 2 ^ 31) : xfI o = -9 ↔ o = none := by
  cases o with
  | none => exact ⟨fun _ => rfl, fun _ => rfl⟩
  | some d =>
    refine ⟨fun e => ?_, fun e => by cases e⟩
    have h1 := nI_toInt (h d rfl)
    have h2 : (nI d).toInt = (-9 : Int32).toInt := by rw [← show xfI (some d) = nI d from rfl, e]
    rw [h1] at h2
    exact absurd h2 (by have : (-9 : Int32).toInt = -9 := rfl; omega)
def xtm (tx : Nat → Int32) (x y : Int32) : Nat → Bool := fun n => decide (tx (2 * n) = x) && decide (tx (2 * n + 1) = y)
def xfb (tx : Nat → Int32) (T : Nat) (x y : Int32) : Option Nat := xfst (xtm tx x y) T
def xbits (p : Nat → Bool) (n : Nat) : Int32 := Nat.rec (motive := fun _ => Int32) 0 (fun j c => bif p j then c ||| (1 <<< (nI j &&& 31)) else c) n
theorem xbits_s (p : Nat → Bool) (n : Nat) : xbits p (n + 1) = bif p n then xbits p n ||| (1 <<< (nI n &&& 31)) else xbits p n := rfl
def xstp (x : Int32) : Prop := ∃ v, v < 6 ∧ x = nI v
def xN (x : Int32) : Nat := x.toNatClampNeg
theorem xN_nI {v : Nat} (h : v < 2 ^ 31) : xN (nI v) = v := nI_clamp h
theorem xstp_N {x : Int32} (h : xstp x) : xN x < 6 ∧ x = nI (xN x) := by
  obtain ⟨v, h1, rfl⟩ := h
  rw [xN_nI (by omega)]
  exact ⟨h1, rfl⟩
section
variable {q : xQ} {k pc l0 idx idx' L i : Nat} {lv : xL} {rest : List Value} {P : Option Value → xM → Prop} {b : Nat × Nat} {g : Nat → Nat → Int32} {l : Nat → Nat → Int64} {x : Int32}
theorem xS.cSrc (hl : xe_lkF q.1 pc = some (.invokevirtual idx, l0)) (hx : xcF q.2.1 idx = some (idx', 3, 1, [(3, 39), (4, 42), (5, 45), (6, 51), (8, 73), (9, 51)])) (hp : xpn g) (hL : L < 24) (hi : i < 2 ^ 30) (hr : xe_sum rest = true) (h : xS q (k + 3) (pc + 3) lv (.int (xoI (xsrc (L / 4) (L % 4) i)) :: rest) (xH b g l) P) : xS q (k + 3) pc lv (.int (nI i) :: .ref (43 + L) :: rest) (xH b g l) P := by
  have hd := (hp L hL).2
  have hd4 : L % 4 < 4 := Nat.mod_lt _ (by omega)
  rcases xpsh hL with ⟨e, hC⟩ | ⟨e, hC⟩ | ⟨e, hC⟩ | ⟨e, hC⟩ | ⟨e, hC⟩ | ⟨e, hC⟩ <;> rw [e] at h
  · refine xS.cv hl hx rfl (hC b) rfl rfl ⟨by decide, rfl, hr⟩ c_X7_source (fun v M1 hv => ?_)
    rw [hv.1, hv.2]
    exact h
  · refine xS.cv hl hx rfl (hC b) rfl rfl ⟨by decide, rfl, hr⟩ (c_X5_source_4 hC hd hd4 hi) (fun v M1 hv => ?_)
    rw [hv.1, hv.2]
    exact h
  · refine xS.cv hl hx rfl (hC b) rfl rfl ⟨by decide, rfl, hr⟩ (c_X9_source (by omega)) (fun v M1 hv => ?_)
    rw [hv.1, hv.2]
    have e2 : xoI (xsrc 2 (L % 4) i) = if i % 2 = 1 then -1 else nI i := by
      unfold xsrc
      by_cases c : i % 2 = 1 <;> simp [c, xoI]
    rw [e2] at h
    exact h
  · refine xS.cv hl hx rfl (hC b) rfl rfl ⟨by decide, rfl, hr⟩ c_X7_source (fun v M1 hv => ?_)
    rw [hv.1, hv.2]
    exact h
  · refine xS.cv hl hx rfl (hC b) rfl rfl ⟨by decide, rfl, hr⟩ (c_X6_source hC hd hd4 hi) (fun v M1 hv => ?_)
    rw [hv.1, hv.2]
    exact h
  · refine xS.cv hl hx rfl (hC b) rfl rfl ⟨by decide, rfl, hr⟩ c_X4_source (fun v M1 hv => ?_)
    rw [hv.1, hv.2]
    exact h
theorem xS.cThk (hl : xe_lkF q.1 pc = some (.invokevirtual idx, l0)) (hx : xcF q.2.1 idx = some (idx', 3, 1, [(3, 40), (4, 52), (5, 52), (6, 52), (8, 52), (9, 76)])) (hL : L < 24) (hi : i < 2 ^ 30) (hr : xe_sum rest = true) (h : xS q (k + 2) (pc + 3) lv (.int (if xth (L / 4) i = true then 1 else 0) :: rest) (xH b g l) P) : xS q (k + 2) pc lv (.int (nI i) :: .ref (43 + L) :: rest) (xH b g l) P := by
  rcases xpsh hL with ⟨e, hC⟩ | ⟨e, hC⟩ | ⟨e, hC⟩ | ⟨e, hC⟩ | ⟨e, hC⟩ | ⟨e, hC⟩ <;> rw [e] at h
  · refine xS.cv hl hx rfl (hC b) rfl rfl ⟨by decide, rfl, hr⟩ c_X7_thinks (fun v M1 hv => ?_)
    rw [hv.1, hv.2]
    exact h
  · refine xS.cv hl hx rfl (hC b) rfl rfl ⟨by decide, rfl, hr⟩ c_X7_thinks (fun v M1 hv => ?_)
    rw [hv.1, hv.2]
    exact h
  · refine xS.cv hl hx rfl (hC b) rfl rfl ⟨by decide, rfl, hr⟩ c_X7_thinks (fun v M1 hv => ?_)
    rw [hv.1, hv.2]
    exact h
  · refine xS.cv hl hx rfl (hC b) rfl rfl ⟨by decide, rfl, hr⟩ c_X10_thinks (fun v M1 hv => ?_)
    rw [hv.1, hv.2]
    exact h
  · refine xS.cv hl hx rfl (hC b) rfl rfl ⟨by decide, rfl, hr⟩ c_X7_thinks (fun v M1 hv => ?_)
    rw [hv.1, hv.2]
    exact h
  · refine xS.cv hl hx rfl (hC b) rfl rfl ⟨by decide, rfl, hr⟩ (c_X4_thinks (by omega)) (fun v M1 hv => ?_)
    rw [hv.1, hv.2]
    have e2 : (if xth 5 i = true then (1 : Int32) else 0) = if i % 2 = 1 then 1 else 0 := by
      unfold xth
      by_cases c : i % 2 = 1 <;> simp [c]
    rw [e2] at h
    exact h
theorem xS.cIso (hl : xe_lkF q.1 pc = some (.invokevirtual idx, l0)) (hx : xcF q.2.1 idx = some (idx', 3, 1, [(3, 74), (4, 43), (5, 43), (6, 50), (8, 74), (9, 50)])) (hp : xpn g) (hL : L < 24) (hr : xe_sum rest = true) (h : xS q (k + 2) (pc + 3) lv (.int (if xiso (L / 4) x = true then 1 else 0) :: rest) (xH b g l) P) : xS q (k + 2) pc lv (.int x :: .ref (43 + L) :: rest) (xH b g l) P := by
  have hd := (hp L hL).1
  rcases xpsh hL with ⟨e, hC⟩ | ⟨e, hC⟩ | ⟨e, hC⟩ | ⟨e, hC⟩ | ⟨e, hC⟩ | ⟨e, hC⟩ <;> rw [e] at h hd
  · refine xS.cv hl hx rfl (hC b) rfl rfl ⟨by decide, rfl, hr⟩ (c_X7_isOf_6 hC) (fun v M1 hv => ?_)
    rw [hv.1, hv.2, hd]
    simp [xiso] at h
    exact h
  · refine xS.cv hl hx rfl (hC b) rfl rfl ⟨by decide, rfl, hr⟩ (c_X5_isOf_4 hC) (fun v M1 hv => ?_)
    rw [hv.1, hv.2, hd]
    have e2 : (if xiso 1 x = true then (1 : Int32) else 0) = if x = 1 ∨ x = nI 1 ∨ x = 0 then 1 else 0 := by
      congr 1
      simp [xiso]
      intro z
      exact Or.inl z
    rw [e2] at h
    exact h
  · refine xS.cv hl hx rfl (hC b) rfl rfl ⟨by decide, rfl, hr⟩ (c_X9_isOf_8 hC) (fun v M1 hv => ?_)
    rw [hv.1, hv.2, hd]
    have e2 : (if xiso 2 x = true then (1 : Int32) else 0) = if x = 2 ∨ x = nI 2 ∨ x = 0 then 1 else 0 := by
      congr 1
      simp [xiso]
      intro z
      exact Or.inl z
    rw [e2] at h
    exact h
  · refine xS.cv hl hx rfl (hC b) rfl rfl ⟨by decide, rfl, hr⟩ (c_X7_isOf_9 hC) (fun v M1 hv => ?_)
    rw [hv.1, hv.2, hd]
    have e2 : (if xiso 3 x = true then (1 : Int32) else 0) = if x = nI 3 ∨ x = 0 then 1 else 0 := by
      congr 1
      simp [xiso]
    rw [e2] at h
    exact h
  · refine xS.cv hl hx rfl (hC b) rfl rfl ⟨by decide, rfl, hr⟩ (c_X5_isOf_5 hC) (fun v M1 hv => ?_)
    rw [hv.1, hv.2, hd]
    have e2 : (if xiso 4 x = true then (1 : Int32) else 0) = if x = 1 ∨ x = nI 4 ∨ x = 0 then 1 else 0 := by
      congr 1
      simp [xiso]
      constructor
      · rintro (z | z | z)
        · exact Or.inr (Or.inl z)
        · exact Or.inr (Or.inr z)
        · exact Or.inl z
      · rintro (z | z | z)
        · exact Or.inr (Or.inr z)
        · exact Or.inl z
        · exact Or.inr (Or.inl z)
    rw [e2] at h
    exact h
  · refine xS.cv hl hx rfl (hC b) rfl rfl ⟨by decide, rfl, hr⟩ (c_X9_isOf_3 hC) (fun v M1 hv => ?_)
    rw [hv.1, hv.2, hd]
    have e2 : (if xiso 5 x = true then (1 : Int32) else 0) = if x = 2 ∨ x = nI 5 ∨ x = 0 then 1 else 0 := by
      congr 1
      simp [xiso]
      constructor
      · rintro (z | z | z)
        · exact Or.inr (Or.inl z)
        · exact Or.inr (Or.inr z)
        · exact Or.inl z
      · rintro (z | z | z)
        · exact Or.inr (Or.inr z)
        · exact Or.inl z
        · exact Or.inr (Or.inl z)
    rw [e2] at h
    exact h
end

theorem xS.cKind {q : xQ} {k pc l0 idx idx' L : Nat} {lv : xL} {rest : List Value} {P : Option Value → xM → Prop} {b : Nat × Nat} {g : Nat → Nat → Int32} {l : Nat → Nat → Int64} (hl : xe_lkF q.1 pc = some (.invokevirtual idx, l0)) (hx : xcF q.2.1 idx = some (idx', 3, 0, [(3, 48), (4, 48), (5, 48), (6, 48), (8, 48), (9, 48)])) (hp : xpn g) (hL : L < 24) (hr : xe_sum rest = true) (h : xS q (k + 1) (pc + 3) lv (.int (nI (L / 4)) :: rest) (xH b g l) P) : xS q (k + 1) pc lv (.ref (43 + L) :: rest) (xH b g l) P := by
  have hd := (hp L hL).1
  rcases xpsh hL with ⟨e, hC⟩ | ⟨e, hC⟩ | ⟨e, hC⟩ | ⟨e, hC⟩ | ⟨e, hC⟩ | ⟨e, hC⟩
  · refine xS.cv hl hx rfl (hC b) rfl rfl ⟨by decide, rfl, hr⟩ (c_X7_kind_6 hC) (fun v M1 hv => ?_)
    rw [hv.1, hv.2, hd]
    exact h
  · refine xS.cv hl hx rfl (hC b) rfl rfl ⟨by decide, rfl, hr⟩ (c_X7_kind_4 hC) (fun v M1 hv => ?_)
    rw [hv.1, hv.2, hd]
    exact h
  · refine xS.cv hl hx rfl (hC b) rfl rfl ⟨by decide, rfl, hr⟩ (c_X7_kind_8 hC) (fun v M1 hv => ?_)
    rw [hv.1, hv.2, hd]
    exact h
  · refine xS.cv hl hx rfl (hC b) rfl rfl ⟨by decide, rfl, hr⟩ (c_X7_kind_9 hC) (fun v M1 hv => ?_)
    rw [hv.1, hv.2, hd]
    exact h
  · refine xS.cv hl hx rfl (hC b) rfl rfl ⟨by decide, rfl, hr⟩ (c_X7_kind_5 hC) (fun v M1 hv => ?_)
    rw [hv.1, hv.2, hd]
    exact h
  · refine xS.cv hl hx rfl (hC b) rfl rfl ⟨by decide, rfl, hr⟩ (c_X7_kind_3 hC) (fun v M1 hv => ?_)
    rw [hv.1, hv.2, hd]
    exact h

theorem xS.cDelay {q : xQ} {k pc l0 idx idx' L : Nat} {lv : xL} {rest : List Value} {P : Option Value → xM → Prop} {b : Nat × Nat} {g : Nat → Nat → Int32} {l : Nat → Nat → Int64} (hl : xe_lkF q.1 pc = some (.invokevirtual idx, l0)) (hx : xcF q.2.1 idx = some (idx', 3, 0, [(3, 49), (4, 49), (5, 49), (6, 49), (8, 49), (9, 49)])) (hp : xpn g) (hL : L < 24) (hr : xe_sum rest = true) (h : xS q (k + 1) (pc + 3) lv (.int (nI (L % 4)) :: rest) (xH b g l) P) : xS q (k + 1) pc lv (.ref (43 + L) :: rest) (xH b g l) P := by
  have hd := (hp L hL).2
  rcases xpsh hL with ⟨e, hC⟩ | ⟨e, hC⟩ | ⟨e, hC⟩ | ⟨e, hC⟩ | ⟨e, hC⟩ | ⟨e, hC⟩
  · refine xS.cv hl hx rfl (hC b) rfl rfl ⟨by decide, rfl, hr⟩ (c_X7_delay_6 hC) (fun v M1 hv => ?_)
    rw [hv.1, hv.2, hd]
    exact h
  · refine xS.cv hl hx rfl (hC b) rfl rfl ⟨by decide, rfl, hr⟩ (c_X7_delay_4 hC) (fun v M1 hv => ?_)
    rw [hv.1, hv.2, hd]
    exact h
  · refine xS.cv hl hx rfl (hC b) rfl rfl ⟨by decide, rfl, hr⟩ (c_X7_delay_8 hC) (fun v M1 hv => ?_)
    rw [hv.1, hv.2, hd]
    exact h
  · refine xS.cv hl hx rfl (hC b) rfl rfl ⟨by decide, rfl, hr⟩ (c_X7_delay_9 hC) (fun v M1 hv => ?_)
    rw [hv.1, hv.2, hd]
    exact h
  · refine xS.cv hl hx rfl (hC b) rfl rfl ⟨by decide, rfl, hr⟩ (c_X7_delay_5 hC) (fun v M1 hv => ?_)
    rw [hv.1, hv.2, hd]
    exact h
  · refine xS.cv hl hx rfl (hC b) rfl rfl ⟨by decide, rfl, hr⟩ (c_X7_delay_3 hC) (fun v M1 hv => ?_)
    rw [hv.1, hv.2, hd]
    exact h

section
variable {k a c n n2 m t p s d i1 j1 : Nat} {b : Nat × Nat} {g : Nat → Nat → Int32} {l : Nat → Nat → Int64} {i j x y z v w : Int32} {u w1 w2 : Int64}
variable {L : Nat}
set_option maxRecDepth 10000 in
theorem c_X11_isStep  : xT (k + 1) 126 [.int x] (xH b g l) (fun r M' => M' = xH b g l ∧ r = some (.int (if 0 ≤ x ∧ x < 6 then 1 else 0))) := by
  refine xT.of rfl (Nat.le_of_ble_eq_true rfl) ?_
  dsimp only [lv_args]
  refine xS.s1 rfl rfl ?_
  try dsimp only [Nat.reduceAdd]
  refine xS.br0 (c := .lt) (off := 13) (l := 3) rfl rfl (fun h1 => ?_) (fun h1 => ?_)
  · have g1 := xt_lt h1
    refine xS.s1 rfl rfl ?_
    try dsimp only [Nat.reduceAdd, xi_0]
    refine xS.ret rfl rfl rfl (fun _ _ => rfl) ?_
    exact ⟨rfl, by split <;> first | rfl | (exfalso; simp only [Int32.le_iff_toInt_le, Int32.lt_iff_toInt_lt, Int32.reduceToInt] at *; omega)⟩
  · have g1 := xf_lt h1
    refine xS.s1 rfl rfl ?_
    try dsimp only [Nat.reduceAdd]
    refine xS.s1 rfl rfl ?_
    try dsimp only [Nat.reduceAdd, xj_6]
    refine xS.br (c := .ge) (off := 7) (l := 3) rfl rfl (fun h7 => ?_) (fun h7 => ?_)
    · have g7 := xt_ge h7
      refine xS.s1 rfl rfl ?_
      try dsimp only [Nat.reduceAdd, xi_0]
      refine xS.ret rfl rfl rfl (fun _ _ => rfl) ?_
      exact ⟨rfl, by split <;> first | rfl | (exfalso; simp only [Int32.le_iff_toInt_le, Int32.lt_iff_toInt_lt, Int32.reduceToInt] at *; omega)⟩
    · have g7 := xf_ge h7
      refine xS.s1 rfl rfl ?_
      try dsimp only [Nat.reduceAdd, xi_1]
      refine xS.s1 rfl rfl ?_
      try dsimp only [Nat.reduceAdd]
      refine xS.ret rfl rfl rfl (fun _ _ => rfl) ?_
      exact ⟨rfl, by split <;> first | rfl | (exfalso; simp only [Int32.le_iff_toInt_le, Int32.lt_iff_toInt_lt, Int32.reduceToInt] at *; omega)⟩

theorem c_X11_isStep_in (ht : t < 6) : xT (k + 1) 126 [.int (nI t)] (xH b g l) (fun r M' => M' = xH b g l ∧ r = some (.int 1)) := by
  refine (c_X11_isStep).weak (fun r M' h => ⟨h.1, ?_⟩)
  rw [h.2, if_pos ⟨nI_pos' (by omega), nI_lt (b := 6) ht (by omega)⟩]

set_option maxRecDepth 10000 in
theorem c_X8_glasses (hC : xro a) : xT (k + 1) 55 [.ref a] (xH b g l) (fun r M' => M' = xH b g l ∧ r = some (.int (g a 2))) := by
  refine xT.of rfl (Nat.le_of_ble_eq_true rfl) ?_
  dsimp only [lv_args]
  refine xS.s1 rfl rfl ?_
  try dsimp only [Nat.reduceAdd]
  refine xS.gI rfl (hC.1 _) rfl ⟨by decide, rfl⟩ rfl ?_
  try dsimp only [Nat.reduceAdd]
  refine xS.ret rfl rfl rfl (fun _ _ => rfl) ?_
  exact ⟨rfl, rfl⟩

set_option maxRecDepth 10000 in
theorem c_X8_terms (hC : xro a) : xT (k + 1) 56 [.ref a] (xH b g l) (fun r M' => M' = xH b g l ∧ r = some (.int (g a 4))) := by
  refine xT.of rfl (Nat.le_of_ble_eq_true rfl) ?_
  dsimp only [lv_args]
  refine xS.s1 rfl rfl ?_
  try dsimp only [Nat.reduceAdd]
  refine xS.gI rfl (hC.1 _) rfl ⟨by decide, rfl⟩ rfl ?_
  try dsimp only [Nat.reduceAdd]
  refine xS.ret rfl rfl rfl (fun _ _ => rfl) ?_
  exact ⟨rfl, rfl⟩

set_option maxRecDepth 10000 in
theorem c_X8_lawOf (hC : xro a) (hs : g a 2 = nI m) (hm : m ≤ 6) (ht : t < m) : xT (k + 1) 57 [.ref a, .int (nI t)] (xH b g l) (fun r M' => M' = xH b g l ∧ r = some (.int (g (a + 2) t))) := by
  refine xT.of rfl (Nat.le_of_ble_eq_true rfl) ?_
  dsimp only [lv_args]
  refine xS.s1 rfl rfl ?_
  try dsimp only [Nat.reduceAdd]
  refine xS.br0 (c := .lt) (off := 20) (l := 3) rfl rfl (fun h1 => ?_) (fun h1 => ?_)
  · have g1 := xt_lt h1
    exfalso; simp (disch := omega) only [hs, Int32.lt_iff_toInt_lt, Int32.le_iff_toInt_le, nI_toInt, Int32.reduceToInt] at g1 <;> omega
  · have g1 := xf_lt h1
    refine xS.s1 rfl rfl ?_
    try dsimp only [Nat.reduceAdd]
    refine xS.s1 rfl rfl ?_
    try dsimp only [Nat.reduceAdd]
    refine xS.gI rfl (hC.1 _) rfl ⟨by decide, rfl⟩ rfl ?_
    try dsimp only [Nat.reduceAdd]
    refine xS.br (c := .ge) (off := 12) (l := 3) rfl rfl (fun h9 => ?_) (fun h9 => ?_)
    · have g9 := xt_ge h9
      exfalso; simp (disch := omega) only [hs, Int32.lt_iff_toInt_lt, Int32.le_iff_toInt_le, nI_toInt, Int32.reduceToInt] at g9 <;> omega
    · have g9 := xf_ge h9
      refine xS.s1 rfl rfl ?_
      try dsimp only [Nat.reduceAdd]
      refine xS.gR rfl (hC.1 _) rfl ⟨by decide, rfl⟩ rfl ?_
      try dsimp only [Nat.reduceAdd]
      refine xS.s1 rfl rfl ?_
      try dsimp only [Nat.reduceAdd]
      refine xS.ia rfl hC.2.2.1 (by omega) ?_
      try dsimp only [Nat.reduceAdd]
      refine xS.s1 rfl rfl ?_
      try dsimp only [Nat.reduceAdd]
      refine xS.ret rfl rfl rfl (fun _ _ => rfl) ?_
      exact ⟨rfl, rfl⟩

set_option maxRecDepth 10000 in
theorem c_X8_termStep (hC : xro a) (hs : g a 4 = nI m) (hm : m ≤ 8) (hd : d < m) (ht : t < 2) : xT (k + 1) 58 [.ref a, .int (nI d), .int (nI t)] (xH b g l) (fun r M' => M' = xH b g l ∧ r = some (.int (g (a + 3) (2 * d + t)))) := by
  refine xT.of rfl (Nat.le_of_ble_eq_true rfl) ?_
  dsimp only [lv_args]
  refine xS.s1 rfl rfl ?_
  try dsimp only [Nat.reduceAdd]
  refine xS.br0 (c := .lt) (off := 26) (l := 3) rfl rfl (fun h1 => ?_) (fun h1 => ?_)
  · have g1 := xt_lt h1
    exfalso; simp (disch := omega) only [hs, Int32.lt_iff_toInt_lt, Int32.le_iff_toInt_le, nI_toInt, Int32.reduceToInt] at g1 <;> omega
  · have g1 := xf_lt h1
    refine xS.s1 rfl rfl ?_
    try dsimp only [Nat.reduceAdd]
    refine xS.s1 rfl rfl ?_
    try dsimp only [Nat.reduceAdd]
    refine xS.gI rfl (hC.1 _) rfl ⟨by decide, rfl⟩ rfl ?_
    try dsimp only [Nat.reduceAdd]
    refine xS.br (c := .ge) (off := 18) (l := 3) rfl rfl (fun h9 => ?_) (fun h9 => ?_)
    · have g9 := xt_ge h9
      exfalso; simp (disch := omega) only [hs, Int32.lt_iff_toInt_lt, Int32.le_iff_toInt_le, nI_toInt, Int32.reduceToInt] at g9 <;> omega
    · have g9 := xf_ge h9
      refine xS.s1 rfl rfl ?_
      try dsimp only [Nat.reduceAdd]
      refine xS.gR rfl (hC.1 _) rfl ⟨by decide, rfl⟩ rfl ?_
      try dsimp only [Nat.reduceAdd]
      refine xS.s1 rfl rfl ?_
      try dsimp only [Nat.reduceAdd, xi_2]
      refine xS.s1 rfl rfl ?_
      try dsimp only [Nat.reduceAdd]
      refine xS.s1 rfl rfl ?_
      try dsimp only [Nat.reduceAdd]
      refine xS.s1 rfl rfl ?_
      try dsimp only [Nat.reduceAdd]
      refine xS.s1 rfl rfl ?_
      try dsimp only [Nat.reduceAdd, xi_1]
      refine xS.s1 rfl rfl ?_
      try dsimp only [Nat.reduceAdd]
      rw [xand1 (by omega), show t % 2 = t by omega]
      refine xS.s1 rfl rfl ?_
      try dsimp only [Nat.reduceAdd]
      rw [show (((2 * nI d) + nI t) : Int32) = nI ((2 * d) + t) from by simp only [← nI_add, ← pk_mul]; rfl]
      refine xS.ia rfl hC.2.2.2 (by omega) ?_
      try dsimp only [Nat.reduceAdd]
      refine xS.s1 rfl rfl ?_
      try dsimp only [Nat.reduceAdd]
      refine xS.ret rfl rfl rfl (fun _ _ => rfl) ?_
      exact ⟨rfl, rfl⟩

set_option maxRecDepth 10000 in
theorem c_X8_thought (hC : xro a) (ht : t < 6) : xT (k + 2) 59 [.ref a, .int (nI t)] (xH b g l) (fun r M' => M' = xH b g l ∧ r = some (.int (g (a + 1) t))) := by
  refine xT.of rfl (Nat.le_of_ble_eq_true rfl) ?_
  dsimp only [lv_args]
  refine xS.s1 rfl rfl ?_
  try dsimp only [Nat.reduceAdd]
  -- 1 yX11_isStep
  refine xS.callN rfl rfl rfl ⟨Nat.le_of_ble_eq_true rfl, rfl⟩ (c_X11_isStep_in ht) (fun v M1 hv => ?_)
  rw [hv.1, hv.2]
  clear hv M1 v
  try dsimp only [Nat.reduceAdd, Option.toList, List.cons_append, List.nil_append, List.drop]
  refine xS.br0 (c := .eq) (off := 12) (l := 3) rfl rfl (fun h4 => ?_) (fun h4 => ?_)
  · have g4 := xt_eq h4
    exact absurd g4 (by decide)
  · have g4 := xf_eq h4
    refine xS.s1 rfl rfl ?_
    try dsimp only [Nat.reduceAdd]
    refine xS.gR rfl (hC.1 _) rfl ⟨by decide, rfl⟩ rfl ?_
    try dsimp only [Nat.reduceAdd]
    refine xS.s1 rfl rfl ?_
    try dsimp only [Nat.reduceAdd]
    refine xS.ia rfl hC.2.1 (by omega) ?_
    try dsimp only [Nat.reduceAdd]
    refine xS.s1 rfl rfl ?_
    try dsimp only [Nat.reduceAdd]
    refine xS.ret rfl rfl rfl (fun _ _ => rfl) ?_
    exact ⟨rfl, rfl⟩

set_option maxRecDepth 10000 in
theorem c_X8_seen (hC : xro a) (hL : L < 24) (hi : t < 2 ^ 30) (hs : s < 6) : xT (k + 3) 60 [.ref a, .ref (43 + L), .int (nI t), .int (nI s)] (xH b g l) (fun r M' => M' = xH b g l ∧ r = some (.int (xseen (g (a + 1)) (L / 4) t s))) := by
  refine xT.of rfl (Nat.le_of_ble_eq_true rfl) ?_
  dsimp only [lv_args]
  refine xS.s1 rfl rfl ?_
  try dsimp only [Nat.reduceAdd]
  refine xS.s1 rfl rfl ?_
  try dsimp only [Nat.reduceAdd]
  refine xS.cThk rfl rfl hL hi rfl ?_
  try dsimp only [Nat.reduceAdd]
  refine xS.br0 (c := .eq) (off := 11) (l := 3) rfl rfl (fun h5 => ?_) (fun h5 => ?_)
  · have g5 := xt_eq h5
    refine xS.s1 rfl rfl ?_
    try dsimp only [Nat.reduceAdd]
    refine xS.s1 rfl rfl ?_
    try dsimp only [Nat.reduceAdd]
    refine xS.s1 rfl rfl ?_
    try dsimp only [Nat.reduceAdd]
    refine xS.s1 rfl rfl ?_
    try dsimp only [Nat.reduceAdd, xi_1]
    refine xS.br (c := .eq) (off := 9) (l := 3) rfl rfl (fun h22 => ?_) (fun h22 => ?_)
    · have g22 := xt_eq h22
      refine xS.s1 rfl rfl ?_
      try dsimp only [Nat.reduceAdd, xi_3]
      refine xS.s1 rfl rfl ?_
      try dsimp only [Nat.reduceAdd]
      refine xS.s1 rfl rfl ?_
      try dsimp only [Nat.reduceAdd]
      refine xS.s1 rfl rfl ?_
      try dsimp only [Nat.reduceAdd]
      refine xS.ret rfl rfl rfl (fun _ _ => rfl) ?_
      refine ⟨rfl, ?_⟩
      unfold xseen xmir
      first | (simp [xif0 g5, g22]; done) | (simp [xif1 g5, g22]; done)
    · have g22 := xf_eq h22
      refine xS.s1 rfl rfl ?_
      try dsimp only [Nat.reduceAdd]
      refine xS.s1 rfl rfl ?_
      try dsimp only [Nat.reduceAdd, xi_2]
      refine xS.br (c := .ne) (off := 10) (l := 3) rfl rfl (fun h28 => ?_) (fun h28 => ?_)
      · have g28 := xt_ne h28
        refine xS.s1 rfl rfl ?_
        try dsimp only [Nat.reduceAdd]
        refine xS.ret rfl rfl rfl (fun _ _ => rfl) ?_
        refine ⟨rfl, ?_⟩
        unfold xseen xmir
        first | (simp [xif0 g5, g22, g28]; done) | (simp [xif1 g5, g22, g28]; done)
      · have g28 := xf_ne h28
        refine xS.s1 rfl rfl ?_
        try dsimp only [Nat.reduceAdd, xi_3]
        refine xS.s1 rfl rfl ?_
        try dsimp only [Nat.reduceAdd]
        refine xS.s1 rfl rfl ?_
        try dsimp only [Nat.reduceAdd]
        refine xS.s1 rfl rfl ?_
        try dsimp only [Nat.reduceAdd]
        refine xS.ret rfl rfl rfl (fun _ _ => rfl) ?_
        refine ⟨rfl, ?_⟩
        unfold xseen xmir
        first | (simp [xif0 g5, g22, g28]; done) | (simp [xif1 g5, g22, g28]; done)
  · have g5 := xf_eq h5
    refine xS.s1 rfl rfl ?_
    try dsimp only [Nat.reduceAdd]
    refine xS.s1 rfl rfl ?_
    try dsimp only [Nat.reduceAdd]
    -- 10 yX8_thought
    refine xS.cv rfl rfl rfl (hC.1 _) rfl rfl ⟨by decide, rfl, rfl⟩ (c_X8_thought hC hs) (fun v M1 hv => ?_)
    rw [hv.1, hv.2]
    clear hv M1 v
    try dsimp only [Nat.reduceAdd, Option.toList, List.cons_append, List.nil_append, List.drop]
    refine xS.s1 rfl rfl ?_
    try dsimp only [Nat.reduceAdd]
    refine xS.s1 rfl rfl ?_
    try dsimp only [Nat.reduceAdd]
    refine xS.s1 rfl rfl ?_
    try dsimp only [Nat.reduceAdd]
    refine xS.s1 rfl rfl ?_
    try dsimp only [Nat.reduceAdd, xi_1]
    refine xS.br (c := .eq) (off := 9) (l := 3) rfl rfl (fun h22 => ?_) (fun h22 => ?_)
    · have g22 := xt_eq h22
      refine xS.s1 rfl rfl ?_
      try dsimp only [Nat.reduceAdd, xi_3]
      refine xS.s1 rfl rfl ?_
      try dsimp only [Nat.reduceAdd]
      refine xS.s1 rfl rfl ?_
      try dsimp only [Nat.reduceAdd]
      refine xS.s1 rfl rfl ?_
      try dsimp only [Nat.reduceAdd]
      refine xS.ret rfl rfl rfl (fun _ _ => rfl) ?_
      refine ⟨rfl, ?_⟩
      unfold xseen xmir
      first | (simp [xif0 g5, g22]; done) | (simp [xif1 g5, g22]; done)
    · have g22 := xf_eq h22
      refine xS.s1 rfl rfl ?_
      try dsimp only [Nat.reduceAdd]
      refine xS.s1 rfl rfl ?_
      try dsimp only [Nat.reduceAdd, xi_2]
      refine xS.br (c := .ne) (off := 10) (l := 3) rfl rfl (fun h28 => ?_) (fun h28 => ?_)
      · have g28 := xt_ne h28
        refine xS.s1 rfl rfl ?_
        try dsimp only [Nat.reduceAdd]
        refine xS.ret rfl rfl rfl (fun _ _ => rfl) ?_
        refine ⟨rfl, ?_⟩
        unfold xseen xmir
        first | (simp [xif0 g5, g22, g28]; done) | (simp [xif1 g5, g22, g28]; done)
      · have g28 := xf_ne h28
        refine xS.s1 rfl rfl ?_
        try dsimp only [Nat.reduceAdd, xi_3]
        refine xS.s1 rfl rfl ?_
        try dsimp only [Nat.reduceAdd]
        refine xS.s1 rfl rfl ?_
        try dsimp only [Nat.reduceAdd]
        refine xS.s1 rfl rfl ?_
        try dsimp only [Nat.reduceAdd]
        refine xS.ret rfl rfl rfl (fun _ _ => rfl) ?_
        refine ⟨rfl, ?_⟩
        unfold xseen xmir
        first | (simp [xif0 g5, g22, g28]; done) | (simp [xif1 g5, g22, g28]; done)

set_option maxRecDepth 10000 in
theorem c_X8_shown_C (hC : xro a) (hF : xce c n) (hp : xpn g) (hL : L < 24) (hi : t < 2 ^ 30) (hs : g c 1 = nI m) (hm : m ≤ n) (hu : ∀ s, xsrc (L / 4) (L % 4) t = some s → s < m ∧ xstp (g (c + 1) s)) : xT (k + 4) 61 [.ref a, .ref (43 + L), .ref c, .int (nI t)] (xH b g l) (fun r M' => M' = xH b g l ∧ r = some (.int (xshw (g (a + 1)) (L / 4) (L % 4) (fun s => xN (g (c + 1) s)) t))) := by
  refine xT.of rfl (Nat.le_of_ble_eq_true rfl) ?_
  try dsimp only [lv_args]
  refine xS.s1 rfl rfl ?_
  try dsimp only [Nat.reduceAdd]
  refine xS.s1 rfl rfl ?_
  try dsimp only [Nat.reduceAdd]
  refine xS.cSrc rfl rfl hp hL hi rfl ?_
  try dsimp only [Nat.reduceAdd]
  refine xS.s1 rfl rfl ?_
  try dsimp only [Nat.reduceAdd]
  refine xS.s1 rfl rfl ?_
  try dsimp only [Nat.reduceAdd]
  refine xS.s1 rfl rfl ?_
  try dsimp only [Nat.reduceAdd, xi_m1]
  cases e : xsrc (L / 4) (L % 4) t with
  | none =>
    refine xS.br (c := .ne) (off := 7) (l := 3) rfl rfl (fun h10 => absurd rfl (xt_ne h10)) (fun h10 => ?_)
    refine xS.s1 rfl rfl ?_
    try dsimp only [Nat.reduceAdd, xi_0]
    refine xS.s1 rfl rfl ?_
    try dsimp only [Nat.reduceAdd]
    refine xS.ret rfl rfl rfl (fun _ _ => rfl) ?_
    exact ⟨rfl, by unfold xshw; rw [e]⟩
  | some s =>
    obtain ⟨h1, h2⟩ := hu s e
    have h2 := xstp_N h2
    have h3 : s < 2 ^ 31 := by have := xn31 hF.2; omega
    show xS _ _ _ _ (.int (-1) :: .int (nI s) :: _) _ _
    refine xS.br (c := .ne) (off := 7) (l := 3) rfl rfl (fun h10 => ?_) (fun h10 => absurd (xf_ne h10) (fun z => absurd ((nI_toInt h3).symm.trans (congrArg Int32.toInt z)) (by have : (-1 : Int32).toInt = -1 := rfl; omega)))
    refine xS.s1 rfl rfl ?_
    try dsimp only [Nat.reduceAdd]
    refine xS.s1 rfl rfl ?_
    try dsimp only [Nat.reduceAdd]
    refine xS.s1 rfl rfl ?_
    try dsimp only [Nat.reduceAdd]
    refine xS.s1 rfl rfl ?_
    try dsimp only [Nat.reduceAdd]
    refine xS.s1 rfl rfl ?_
    try dsimp only [Nat.reduceAdd]
    refine xS.cv rfl rfl rfl (hF.1 _) rfl rfl ⟨by decide, rfl, rfl⟩ (c_X0_stepAt hF hs hm h1) (fun v M1 hv => ?_)
    rw [hv.1, hv.2, h2.2]
    try dsimp only [Nat.reduceAdd, Option.toList, List.cons_append, List.nil_append, List.drop]
    refine xS.cv rfl rfl rfl (hC.1 _) rfl rfl ⟨by decide, rfl, rfl⟩ (c_X8_seen hC hL hi h2.1) (fun v M1 hv => ?_)
    rw [hv.1, hv.2]
    try dsimp only [Nat.reduceAdd, Option.toList, List.cons_append, List.nil_append, List.drop]
    refine xS.ret rfl rfl rfl (fun _ _ => rfl) ?_
    exact ⟨rfl, by unfold xshw; rw [e]⟩

set_option maxRecDepth 10000 in
theorem c_X8_shown_D (hC : xro a) (hF : xde c) (hp : xpn g) (hL : L < 24) (hi : t < 2 ^ 30) (hs : g c 1 = nI m) (hm : m ≤ 40) (hu : ∀ s, xsrc (L / 4) (L % 4) t = some s → s < m ∧ xstp (g (c + 1) (4 * s))) : xT (k + 4) 61 [.ref a, .ref (43 + L), .ref c, .int (nI t)] (xH b g l) (fun r M' => M' = xH b g l ∧ r = some (.int (xshw (g (a + 1)) (L / 4) (L % 4) (fun s => xN (g (c + 1) (4 * s))) t))) := by
  refine xT.of rfl (Nat.le_of_ble_eq_true rfl) ?_
  try dsimp only [lv_args]
  refine xS.s1 rfl rfl ?_
  try dsimp only [Nat.reduceAdd]
  refine xS.s1 rfl rfl ?_
  try dsimp only [Nat.reduceAdd]
  refine xS.cSrc rfl rfl hp hL hi rfl ?_
  try dsimp only [Nat.reduceAdd]
  refine xS.s1 rfl rfl ?_
  try dsimp only [Nat.reduceAdd]
  refine xS.s1 rfl rfl ?_
  try dsimp only [Nat.reduceAdd]
  refine xS.s1 rfl rfl ?_
  try dsimp only [Nat.reduceAdd, xi_m1]
  cases e : xsrc (L / 4) (L % 4) t with
  | none =>
    refine xS.br (c := .ne) (off := 7) (l := 3) rfl rfl (fun h10 => absurd rfl (xt_ne h10)) (fun h10 => ?_)
    refine xS.s1 rfl rfl ?_
    try dsimp only [Nat.reduceAdd, xi_0]
    refine xS.s1 rfl rfl ?_
    try dsimp only [Nat.reduceAdd]
    refine xS.ret rfl rfl rfl (fun _ _ => rfl) ?_
    exact ⟨rfl, by unfold xshw; rw [e]⟩
  | some s =>
    obtain ⟨h1, h2⟩ := hu s e
    have h2 := xstp_N h2
    have h3 : s < 2 ^ 31 := by  omega
    show xS _ _ _ _ (.int (-1) :: .int (nI s) :: _) _ _
    refine xS.br (c := .ne) (off := 7) (l := 3) rfl rfl (fun h10 => ?_) (fun h10 => absurd (xf_ne h10) (fun z => absurd ((nI_toInt h3).symm.trans (congrArg Int32.toInt z)) (by have : (-1 : Int32).toInt = -1 := rfl; omega)))
    refine xS.s1 rfl rfl ?_
    try dsimp only [Nat.reduceAdd]
    refine xS.s1 rfl rfl ?_
    try dsimp only [Nat.reduceAdd]
    refine xS.s1 rfl rfl ?_
    try dsimp only [Nat.reduceAdd]
    refine xS.s1 rfl rfl ?_
    try dsimp only [Nat.reduceAdd]
    refine xS.s1 rfl rfl ?_
    try dsimp only [Nat.reduceAdd]
    refine xS.cv rfl rfl rfl (hF.1 _) rfl rfl ⟨by decide, rfl, rfl⟩ (c_X2_stepAt hF hs hm h1) (fun v M1 hv => ?_)
    rw [hv.1, hv.2, h2.2]
    try dsimp only [Nat.reduceAdd, Option.toList, List.cons_append, List.nil_append, List.drop]
    refine xS.cv rfl rfl rfl (hC.1 _) rfl rfl ⟨by decide, rfl, rfl⟩ (c_X8_seen hC hL hi h2.1) (fun v M1 hv => ?_)
    rw [hv.1, hv.2]
    try dsimp only [Nat.reduceAdd, Option.toList, List.cons_append, List.nil_append, List.drop]
    refine xS.ret rfl rfl rfl (fun _ _ => rfl) ?_
    exact ⟨rfl, by unfold xshw; rw [e]⟩

set_option maxRecDepth 10000 in
theorem c_X8_stepsSeenAs (hC : xro a) (hL : L < 24) (hi : t < 2 ^ 30) : xT (k + 4) 62 [.ref a, .ref (43 + L), .int (nI t), .int x] (xH b g l) (fun r M' => M' = xH b g l ∧ r = some (.int (xbits (fun s => decide (xseen (g (a + 1)) (L / 4) t s = x)) 6))) := by
  refine xT.of rfl (Nat.le_of_ble_eq_true rfl) ?_
  dsimp only [lv_args]
  refine xS.s1 rfl rfl ?_
  try dsimp only [Nat.reduceAdd, xi_0]
  refine xS.s1 rfl rfl ?_
  try dsimp only [Nat.reduceAdd]
  refine xS.s1 rfl rfl ?_
  try dsimp only [Nat.reduceAdd, xi_0]
  refine xS.s1 rfl rfl ?_
  try dsimp only [Nat.reduceAdd]
  refine xS.pick [0, 1, 2, 3, 4, 5] rfl ?_
  refine xS.loop (σ := Unit) (6) (fun j S => [(5, .int (nI j)), (4, .int (xbits (fun s => decide (xseen (g (a + 1)) (L / 4) t s = x)) j)), (0, .ref a), (1, .ref (43 + L)), (2, .int (nI t)), (3, .int x)]) (fun _ _ => xH b g l) (fun _ _ => True) (()) (rfl) (rfl) (trivial) ?_
  intro j S hj hI ih
  try dsimp only
  refine xS.s1 rfl rfl ?_
  try dsimp only [Nat.reduceAdd]
  refine xS.s1 rfl rfl ?_
  try dsimp only [Nat.reduceAdd, xj_6]
  refine xS.br (c := .ge) (off := 30) (l := 3) rfl rfl (fun h10 => ?_) (fun h10 => ?_)
  · have g10 := xt_ge h10
    refine xS.s1 rfl rfl ?_
    try dsimp only [Nat.reduceAdd]
    refine xS.ret rfl rfl rfl (fun _ _ => rfl) ?_
    have e := xnle (b := 6) g10 (by omega) (by omega)
    rw [show 6 = j by omega]
    exact ⟨rfl, rfl⟩
  · have g10 := xf_ge h10
    have hlt := xnlt (b := 6) g10 (by omega) (by omega)
    refine xS.s1 rfl rfl ?_
    try dsimp only [Nat.reduceAdd]
    refine xS.s1 rfl rfl ?_
    try dsimp only [Nat.reduceAdd]
    refine xS.s1 rfl rfl ?_
    try dsimp only [Nat.reduceAdd]
    refine xS.s1 rfl rfl ?_
    try dsimp only [Nat.reduceAdd]
    -- 18 yX8_seen
    refine xS.cv rfl rfl rfl (hC.1 _) rfl rfl ⟨by decide, rfl, rfl⟩ (c_X8_seen hC hL hi hlt) (fun v M1 hv => ?_)
    rw [hv.1, hv.2]
    clear hv M1 v
    try dsimp only [Nat.reduceAdd, Option.toList, List.cons_append, List.nil_append, List.drop]
    refine xS.s1 rfl rfl ?_
    try dsimp only [Nat.reduceAdd]
    refine xS.br (c := .ne) (off := 12) (l := 3) rfl rfl (fun h22 => ?_) (fun h22 => ?_)
    · have g22 := xt_ne h22
      refine xS.s1 rfl rfl ?_
      try dsimp only [Nat.reduceAdd, xi_1]
      rw [nI_1]
      refine xS.s1 rfl rfl ?_
      try dsimp only [Nat.reduceAdd]
      refine xS.pick [0, 1, 2, 3, 4, 5] rfl ?_
      have ih2 := ih () (by omega) trivial
      first | (rw [show xbits (fun s => decide (xseen (g (a + 1)) (L / 4) t s = x)) (j + 1) = xbits (fun s => decide (xseen (g (a + 1)) (L / 4) t s = x)) j from by simp [xbits_s, g22]] at ih2; exact ih2) | (rw [show xbits (fun s => decide (xseen (g (a + 1)) (L / 4) t s = x)) (j + 1) = xbits (fun s => decide (xseen (g (a + 1)) (L / 4) t s = x)) j ||| (1 <<< (nI j &&& 31)) from by simp [xbits_s, g22]] at ih2; exact ih2)
    · have g22 := xf_ne h22
      refine xS.s1 rfl rfl ?_
      try dsimp only [Nat.reduceAdd]
      refine xS.s1 rfl rfl ?_
      try dsimp only [Nat.reduceAdd, xi_1]
      refine xS.s1 rfl rfl ?_
      try dsimp only [Nat.reduceAdd]
      refine xS.s1 rfl rfl ?_
      try dsimp only [Nat.reduceAdd]
      refine xS.s1 rfl rfl ?_
      try dsimp only [Nat.reduceAdd]
      refine xS.s1 rfl rfl ?_
      try dsimp only [Nat.reduceAdd]
      refine xS.s1 rfl rfl ?_
      try dsimp only [Nat.reduceAdd, xi_1]
      rw [nI_1]
      refine xS.s1 rfl rfl ?_
      try dsimp only [Nat.reduceAdd]
      refine xS.pick [0, 1, 2, 3, 4, 5] rfl ?_
      have ih2 := ih () (by omega) trivial
      first | (rw [show xbits (fun s => decide (xseen (g (a + 1)) (L / 4) t s = x)) (j + 1) = xbits (fun s => decide (xseen (g (a + 1)) (L / 4) t s = x)) j from by simp [xbits_s, g22]] at ih2; exact ih2) | (rw [show xbits (fun s => decide (xseen (g (a + 1)) (L / 4) t s = x)) (j + 1) = xbits (fun s => decide (xseen (g (a + 1)) (L / 4) t s = x)) j ||| (1 <<< (nI j &&& 31)) from by simp [xbits_s, g22]] at ih2; exact ih2)

set_option maxRecDepth 10000 in
theorem c_X8_firstBroken (hC : xro a) (hs : g a 4 = nI m) (hm : m ≤ 8) : xT (k + 1) 63 [.ref a, .int x, .int y] (xH b g l) (fun r M' => M' = xH b g l ∧ r = some (.int (xfI (xfb (g (a + 3)) m x y)))) := by
  refine xT.of rfl (Nat.le_of_ble_eq_true rfl) ?_
  dsimp only [lv_args]
  refine xS.s1 rfl rfl ?_
  try dsimp only [Nat.reduceAdd, xi_0]
  refine xS.s1 rfl rfl ?_
  try dsimp only [Nat.reduceAdd]
  refine xS.pick [0, 1, 2, 3] rfl ?_
  refine xS.loop (σ := Unit) (m) (fun j S => [(3, .int (nI j)), (0, .ref a), (1, .int x), (2, .int y)]) (fun _ _ => xH b g l) (fun j _ => xfst (xtm (g (a + 3)) x y) j = none) (()) (rfl) (rfl) (rfl) ?_
  intro j S hj hI ih
  try dsimp only
  refine xS.s1 rfl rfl ?_
  try dsimp only [Nat.reduceAdd]
  refine xS.s1 rfl rfl ?_
  try dsimp only [Nat.reduceAdd]
  refine xS.gI rfl (hC.1 _) rfl ⟨by decide, rfl⟩ rfl ?_
  try dsimp only [Nat.reduceAdd]
  refine xS.br (c := .ge) (off := 37) (l := 3) rfl rfl (fun h7 => ?_) (fun h7 => ?_)
  · have g7 := xt_ge h7
    refine xS.s1 rfl rfl ?_
    try dsimp only [Nat.reduceAdd, xj_m9]
    refine xS.ret rfl rfl rfl (fun _ _ => rfl) ?_
    rw [hs] at g7
    have e := xnle g7 (by omega) (by omega)
    unfold xfb
    rw [show m = j by omega, hI]
    exact ⟨rfl, rfl⟩
  · have g7 := xf_ge h7
    rw [hs] at g7
    have hlt := xnlt g7 (by omega) (by omega)
    refine xS.s1 rfl rfl ?_
    try dsimp only [Nat.reduceAdd]
    refine xS.gR rfl (hC.1 _) rfl ⟨by decide, rfl⟩ rfl ?_
    try dsimp only [Nat.reduceAdd]
    refine xS.s1 rfl rfl ?_
    try dsimp only [Nat.reduceAdd, xi_2]
    refine xS.s1 rfl rfl ?_
    try dsimp only [Nat.reduceAdd]
    refine xS.s1 rfl rfl ?_
    try dsimp only [Nat.reduceAdd]
    rw [show ((2 * nI j) : Int32) = nI (2 * j) from by simp only [← nI_add, ← pk_mul]; rfl]
    refine xS.ia rfl hC.2.2.2 (by omega) ?_
    try dsimp only [Nat.reduceAdd]
    refine xS.s1 rfl rfl ?_
    try dsimp only [Nat.reduceAdd]
    refine xS.br (c := .ne) (off := 19) (l := 3) rfl rfl (fun h19 => ?_) (fun h19 => ?_)
    · have g19 := xt_ne h19
      refine xS.s1 rfl rfl ?_
      try dsimp only [Nat.reduceAdd, xi_1]
      rw [nI_1]
      refine xS.s1 rfl rfl ?_
      try dsimp only [Nat.reduceAdd]
      refine xS.pick [0, 1, 2, 3] rfl ?_
      exact ih () (by omega) (xfst_n hI (by simp [xtm, g19]))
    · have g19 := xf_ne h19
      refine xS.s1 rfl rfl ?_
      try dsimp only [Nat.reduceAdd]
      refine xS.gR rfl (hC.1 _) rfl ⟨by decide, rfl⟩ rfl ?_
      try dsimp only [Nat.reduceAdd]
      refine xS.s1 rfl rfl ?_
      try dsimp only [Nat.reduceAdd, xi_2]
      refine xS.s1 rfl rfl ?_
      try dsimp only [Nat.reduceAdd]
      refine xS.s1 rfl rfl ?_
      try dsimp only [Nat.reduceAdd]
      refine xS.s1 rfl rfl ?_
      try dsimp only [Nat.reduceAdd, xi_1]
      refine xS.s1 rfl rfl ?_
      try dsimp only [Nat.reduceAdd]
      rw [show (((2 * nI j) + 1) : Int32) = nI ((2 * j) + 1) from by simp only [← nI_add, ← pk_mul]; rfl]
      refine xS.ia rfl hC.2.2.2 (by omega) ?_
      try dsimp only [Nat.reduceAdd]
      refine xS.s1 rfl rfl ?_
      try dsimp only [Nat.reduceAdd]
      refine xS.br (c := .ne) (off := 5) (l := 3) rfl rfl (fun h33 => ?_) (fun h33 => ?_)
      · have g33 := xt_ne h33
        refine xS.s1 rfl rfl ?_
        try dsimp only [Nat.reduceAdd, xi_1]
        rw [nI_1]
        refine xS.s1 rfl rfl ?_
        try dsimp only [Nat.reduceAdd]
        refine xS.pick [0, 1, 2, 3] rfl ?_
        exact ih () (by omega) (xfst_n hI (by simp [xtm, g19, g33]))
      · have g33 := xf_ne h33
        refine xS.s1 rfl rfl ?_
        try dsimp only [Nat.reduceAdd]
        refine xS.ret rfl rfl rfl (fun _ _ => rfl) ?_
        unfold xfb
        rw [xfst_at hI (by simp [xtm, g19, g33]) hlt]
        exact ⟨rfl, rfl⟩

theorem xfb_lt {tx : Nat → Int32} {T d : Nat} {x y : Int32} (h : xfb tx T x y = some d) : d < T := (xfst_lt h).1
theorem xfb_n {tx : Nat → Int32} {T : Nat} {x y : Int32} (hT : T ≤ 8) : xfI (xfb tx T x y) = -9 ↔ xfb tx T x y = none := xfI_none (fun d h => by have := xfb_lt h; omega)

set_option maxRecDepth 10000 in
theorem c_X8_isBroken (hC : xro a) (hs : g a 4 = nI m) (hm : m ≤ 8) : xT (k + 2) 64 [.ref a, .int x, .int y] (xH b g l) (fun r M' => M' = xH b g l ∧ r = some (.int (if xfb (g (a + 3)) m x y = none then 0 else 1))) := by
  refine xT.of rfl (Nat.le_of_ble_eq_true rfl) ?_
  dsimp only [lv_args]
  refine xS.s1 rfl rfl ?_
  try dsimp only [Nat.reduceAdd]
  refine xS.s1 rfl rfl ?_
  try dsimp only [Nat.reduceAdd]
  refine xS.s1 rfl rfl ?_
  try dsimp only [Nat.reduceAdd]
  -- 3 yX8_firstBroken
  refine xS.cv rfl rfl rfl (hC.1 _) rfl rfl ⟨by decide, rfl, rfl⟩ (c_X8_firstBroken hC hs hm) (fun v M1 hv => ?_)
  rw [hv.1, hv.2]
  clear hv M1 v
  try dsimp only [Nat.reduceAdd, Option.toList, List.cons_append, List.nil_append, List.drop]
  refine xS.s1 rfl rfl ?_
  try dsimp only [Nat.reduceAdd, xj_m9]
  refine xS.br (c := .eq) (off := 7) (l := 3) rfl rfl (fun h8 => ?_) (fun h8 => ?_)
  · have g8 := xt_eq h8
    refine xS.s1 rfl rfl ?_
    try dsimp only [Nat.reduceAdd, xi_0]
    refine xS.ret rfl rfl rfl (fun _ _ => rfl) ?_
    rw [xfb_n hm] at g8
    exact ⟨rfl, by simp [g8]⟩
  · have g8 := xf_eq h8
    refine xS.s1 rfl rfl ?_
    try dsimp only [Nat.reduceAdd, xi_1]
    refine xS.s1 rfl rfl ?_
    try dsimp only [Nat.reduceAdd]
    refine xS.ret rfl rfl rfl (fun _ _ => rfl) ?_
    rw [xfb_n hm] at g8
    exact ⟨rfl, by simp [g8]⟩

end
end
section
/-! LimpMirror: the small private methods -/
def xRm (g : Nat → Nat → Int32) (a G T : Nat) (Lw : Nat → Nat) : Prop := (g a 2 = nI G ∧ G ≤ 6) ∧ (g a 4 = nI T ∧ T ≤ 8) ∧ (∀ k, k < G → g (a + 2) k = nI (Lw k) ∧ Lw k < 24) ∧ (∀ s, s < 6 → xstp (g (a + 1) s))
theorem xsrc_le {κ δ i s : Nat} (h : xsrc κ δ i = some s) : s ≤ i := by
  unfold xsrc at h
  repeat' split at h
  all_goals first | (cases h; done) | (cases h; omega)
def xfC (g : Nat → Nat → Int32) (t : Nat) : Nat → Nat → Int32 := up (up g 0 14 (nI t)) 22 t (g 22 t + 1)
def xnst (f : Nat → Int32) : Nat → Bool := fun i => !decide (0 ≤ f i ∧ f i < 6)
def xfos (S : Int32) (f : Nat → Int32) (most : Nat) : Nat := if S = -1 then 1 else if nI most < S then 5 else if xfst (xnst f) (xN S) = none then 0 else 3
def xfop (S : Int32) (f : Nat → Int32) (S' : Int32) (f' : Nat → Int32) (most : Nat) : Nat := if xfos S f most ≠ 0 then xfos S f most else if xfos S' f' most ≠ 0 then xfos S' f' most else if S = S' then 0 else 5
def xsz (x : Int32) (n : Nat) : Prop := x = -1 ∨ ∃ m, m ≤ n ∧ x = nI m
theorem nI_nm1 {m : Nat} (h : m < 2 ^ 31) : ¬ nI m = -1 := fun z => absurd ((nI_toInt h).symm.trans (congrArg Int32.toInt z)) (by have : (-1 : Int32).toInt = -1 := rfl; omega)
theorem xstp_iff {x : Int32} : xstp x ↔ 0 ≤ x ∧ x < 6 := by
  constructor
  · rintro ⟨v, h1, rfl⟩
    exact ⟨nI_pos' (by omega), nI_lt (b := 6) h1 (by omega)⟩
  · rintro ⟨h1, h2⟩
    obtain ⟨j, hj, rfl⟩ := nI_of (x := x) (Int32.not_lt.mpr h1)
    exact ⟨j, (nI_ltI (b := 6) hj (by omega)).mp h2, rfl⟩
theorem xfst_none {p : Nat → Bool} : ∀ {n : Nat}, xfst p n = none ↔ ∀ i, i < n → p i = false
  | 0 => ⟨fun _ i h => absurd h (by omega), fun _ => rfl⟩
  | n + 1 => by
    rw [xfst_s]
    constructor
    · intro h i hi
      cases e : xfst p n with
      | some d => rw [e] at h; cases h
      | none =>
        rw [e] at h
        have h1 := xfst_none.mp e
        rcases Nat.lt_or_ge i n with h2 | h2
        · exact h1 i h2
        · have : i = n := by omega
          subst this
          cases hp : p i with
          | true => rw [hp] at h; cases h
          | false => rfl
    · intro h
      rw [xfst_none.mpr (fun i hi => h i (by omega)), h n (by omega)]
      rfl
theorem xfos_0 {S : Int32} {f : Nat → Int32} {most n : Nat} (hz : xsz S n) (hn : n < 2 ^ 31) (hm : most < 2 ^ 31) (h : xfos S f most = 0) : ∃ m, S = nI m ∧ m ≤ most ∧ m ≤ n ∧ ∀ i, i < m → xstp (f i) := by
  unfold xfos at h
  split at h
  · cases h
  · rename_i h1
    rcases hz with h2 | ⟨m, h2, rfl⟩
    · exact absurd h2 h1
    · split at h
      · cases h
      · rename_i h3
        split at h
        · rename_i h4
          rw [xN_nI (by omega)] at h4
          rw [nI_ltI hm (by omega)] at h3
          refine ⟨m, rfl, by omega, h2, fun i hi => ?_⟩
          have := xfst_none.mp h4 i hi
          unfold xnst at this
          exact xstp_iff.mpr (by simpa using this)
        · cases h
theorem xfos_le (S : Int32) (f : Nat → Int32) (most : Nat) : xfos S f most ≤ 5 := by
  unfold xfos
  repeat' split
  all_goals omega
theorem xfop_le (S : Int32) (f : Nat → Int32) (S' : Int32) (f' : Nat → Int32) (most : Nat) : xfop S f S' f' most ≤ 5 := by
  unfold xfop
  have h1 := xfos_le S f most
  have h2 := xfos_le S' f' most
  repeat' split
  all_goals omega
theorem xfop_0 {S S' : Int32} {f f' : Nat → Int32} {most : Nat} (h : xfop S f S' f' most = 0) : xfos S f most = 0 ∧ xfos S' f' most = 0 ∧ S = S' := by
  unfold xfop at h
  repeat' split at h
  all_goals first | (exfalso; omega) | skip
  · rename_i h1 h2 h3
    exact ⟨by omega, by omega, h3⟩

section
variable {k a c n n2 m t p s d i1 j1 : Nat} {b : Nat × Nat} {g : Nat → Nat → Int32} {l : Nat → Nat → Int64} {i j x y z v w : Int32} {u w1 w2 : Int64}
variable {L G T : Nat} {Lw : Nat → Nat}
set_option maxRecDepth 10000 in
theorem c_X11_refuse (ht1 : 1 ≤ t) (ht : t ≤ 5) : xT (k + 1) 122 [.ref 0, .int (nI t)] (xH b g l) (fun r M' => M' = xH b (xfC g t) l ∧ r = some (.int (-3))) := by
  refine xT.of rfl (Nat.le_of_ble_eq_true rfl) ?_
  dsimp only [lv_args]
  refine xS.s1 rfl rfl ?_
  try dsimp only [Nat.reduceAdd]
  refine xS.s1 rfl rfl ?_
  try dsimp only [Nat.reduceAdd]
  refine xS.pI rfl rfl rfl ⟨⟨by decide, rfl⟩, rfl, by decide, by decide⟩ rfl ?_
  try dsimp only [Nat.reduceAdd]
  refine xS.s1 rfl rfl ?_
  try dsimp only [Nat.reduceAdd]
  refine xS.s1 rfl rfl ?_
  try dsimp only [Nat.reduceAdd, xi_1]
  refine xS.br (c := .lt) (off := 18) (l := 3) rfl rfl (fun h7 => ?_) (fun h7 => ?_)
  · have g7 := xt_lt h7
    exfalso; have := (nI_ltI (a := t) (b := 1) (by omega) (by omega)).mp g7; omega
  · have g7 := xf_lt h7
    refine xS.s1 rfl rfl ?_
    try dsimp only [Nat.reduceAdd]
    refine xS.s1 rfl rfl ?_
    try dsimp only [Nat.reduceAdd, xi_5]
    refine xS.br (c := .gt) (off := 13) (l := 3) rfl rfl (fun h12 => ?_) (fun h12 => ?_)
    · have g12 := xt_gt h12
      exfalso; have := (nI_ltI (a := 5) (b := t) (by omega) (by omega)).mp g12; omega
    · have g12 := xf_gt h12
      refine xS.s1 rfl rfl ?_
      try dsimp only [Nat.reduceAdd]
      refine xS.gR rfl rfl rfl ⟨by decide, rfl⟩ rfl ?_
      try dsimp only [Nat.reduceAdd]
      refine xS.s1 rfl rfl ?_
      try dsimp only [Nat.reduceAdd]
      refine xS.s1 rfl rfl ?_
      try dsimp only [Nat.reduceAdd]
      refine xS.ia rfl xar_22 (by omega) ?_
      try dsimp only [Nat.reduceAdd]
      rw [up_ne (Or.inl (by decide))]
      refine xS.s1 rfl rfl ?_
      try dsimp only [Nat.reduceAdd, xi_1]
      refine xS.s1 rfl rfl ?_
      try dsimp only [Nat.reduceAdd]
      refine xS.ias rfl xar_22 (by omega) ?_
      try dsimp only [Nat.reduceAdd]
      refine xS.s1 rfl rfl ?_
      try dsimp only [Nat.reduceAdd, xj_m3]
      refine xS.ret rfl rfl rfl (fun _ _ => rfl) ?_
      exact ⟨rfl, rfl⟩

set_option maxRecDepth 10000 in
theorem c_X11_isRow  : xT (k + 1) 123 [.int x] (xH b g l) (fun r M' => M' = xH b g l ∧ r = some (.int (if 0 ≤ x ∧ x < 6 then 1 else 0))) := by
  refine xT.of rfl (Nat.le_of_ble_eq_true rfl) ?_
  dsimp only [lv_args]
  refine xS.s1 rfl rfl ?_
  try dsimp only [Nat.reduceAdd]
  refine xS.br0 (c := .lt) (off := 13) (l := 3) rfl rfl (fun h1 => ?_) (fun h1 => ?_)
  · have g1 := xt_lt h1
    refine xS.s1 rfl rfl ?_
    try dsimp only [Nat.reduceAdd, xi_0]
    refine xS.ret rfl rfl rfl (fun _ _ => rfl) ?_
    exact ⟨rfl, by split <;> first | rfl | (exfalso; simp only [Int32.le_iff_toInt_le, Int32.lt_iff_toInt_lt, Int32.reduceToInt] at *; omega)⟩
  · have g1 := xf_lt h1
    refine xS.s1 rfl rfl ?_
    try dsimp only [Nat.reduceAdd]
    refine xS.s1 rfl rfl ?_
    try dsimp only [Nat.reduceAdd, xj_6]
    refine xS.br (c := .ge) (off := 7) (l := 3) rfl rfl (fun h7 => ?_) (fun h7 => ?_)
    · have g7 := xt_ge h7
      refine xS.s1 rfl rfl ?_
      try dsimp only [Nat.reduceAdd, xi_0]
      refine xS.ret rfl rfl rfl (fun _ _ => rfl) ?_
      exact ⟨rfl, by split <;> first | rfl | (exfalso; simp only [Int32.le_iff_toInt_le, Int32.lt_iff_toInt_lt, Int32.reduceToInt] at *; omega)⟩
    · have g7 := xf_ge h7
      refine xS.s1 rfl rfl ?_
      try dsimp only [Nat.reduceAdd, xi_1]
      refine xS.s1 rfl rfl ?_
      try dsimp only [Nat.reduceAdd]
      refine xS.ret rfl rfl rfl (fun _ _ => rfl) ?_
      exact ⟨rfl, by split <;> first | rfl | (exfalso; simp only [Int32.le_iff_toInt_le, Int32.lt_iff_toInt_lt, Int32.reduceToInt] at *; omega)⟩

set_option maxRecDepth 10000 in
theorem c_X11_isText  : xT (k + 1) 124 [.int x] (xH b g l) (fun r M' => M' = xH b g l ∧ r = some (.int (if 0 ≤ x ∧ x < 4 then 1 else 0))) := by
  refine xT.of rfl (Nat.le_of_ble_eq_true rfl) ?_
  dsimp only [lv_args]
  refine xS.s1 rfl rfl ?_
  try dsimp only [Nat.reduceAdd]
  refine xS.br0 (c := .lt) (off := 12) (l := 3) rfl rfl (fun h1 => ?_) (fun h1 => ?_)
  · have g1 := xt_lt h1
    refine xS.s1 rfl rfl ?_
    try dsimp only [Nat.reduceAdd, xi_0]
    refine xS.ret rfl rfl rfl (fun _ _ => rfl) ?_
    exact ⟨rfl, by split <;> first | rfl | (exfalso; simp only [Int32.le_iff_toInt_le, Int32.lt_iff_toInt_lt, Int32.reduceToInt] at *; omega)⟩
  · have g1 := xf_lt h1
    refine xS.s1 rfl rfl ?_
    try dsimp only [Nat.reduceAdd]
    refine xS.s1 rfl rfl ?_
    try dsimp only [Nat.reduceAdd, xi_4]
    refine xS.br (c := .ge) (off := 7) (l := 3) rfl rfl (fun h6 => ?_) (fun h6 => ?_)
    · have g6 := xt_ge h6
      refine xS.s1 rfl rfl ?_
      try dsimp only [Nat.reduceAdd, xi_0]
      refine xS.ret rfl rfl rfl (fun _ _ => rfl) ?_
      exact ⟨rfl, by split <;> first | rfl | (exfalso; simp only [Int32.le_iff_toInt_le, Int32.lt_iff_toInt_lt, Int32.reduceToInt] at *; omega)⟩
    · have g6 := xf_ge h6
      refine xS.s1 rfl rfl ?_
      try dsimp only [Nat.reduceAdd, xi_1]
      refine xS.s1 rfl rfl ?_
      try dsimp only [Nat.reduceAdd]
      refine xS.ret rfl rfl rfl (fun _ _ => rfl) ?_
      exact ⟨rfl, by split <;> first | rfl | (exfalso; simp only [Int32.le_iff_toInt_le, Int32.lt_iff_toInt_lt, Int32.reduceToInt] at *; omega)⟩

set_option maxRecDepth 10000 in
theorem c_X11_isKept  : xT (k + 1) 125 [.int x] (xH b g l) (fun r M' => M' = xH b g l ∧ r = some (.int (if 0 ≤ x ∧ x < 3 then 1 else 0))) := by
  refine xT.of rfl (Nat.le_of_ble_eq_true rfl) ?_
  dsimp only [lv_args]
  refine xS.s1 rfl rfl ?_
  try dsimp only [Nat.reduceAdd]
  refine xS.br0 (c := .lt) (off := 12) (l := 3) rfl rfl (fun h1 => ?_) (fun h1 => ?_)
  · have g1 := xt_lt h1
    refine xS.s1 rfl rfl ?_
    try dsimp only [Nat.reduceAdd, xi_0]
    refine xS.ret rfl rfl rfl (fun _ _ => rfl) ?_
    exact ⟨rfl, by split <;> first | rfl | (exfalso; simp only [Int32.le_iff_toInt_le, Int32.lt_iff_toInt_lt, Int32.reduceToInt] at *; omega)⟩
  · have g1 := xf_lt h1
    refine xS.s1 rfl rfl ?_
    try dsimp only [Nat.reduceAdd]
    refine xS.s1 rfl rfl ?_
    try dsimp only [Nat.reduceAdd, xi_3]
    refine xS.br (c := .ge) (off := 7) (l := 3) rfl rfl (fun h6 => ?_) (fun h6 => ?_)
    · have g6 := xt_ge h6
      refine xS.s1 rfl rfl ?_
      try dsimp only [Nat.reduceAdd, xi_0]
      refine xS.ret rfl rfl rfl (fun _ _ => rfl) ?_
      exact ⟨rfl, by split <;> first | rfl | (exfalso; simp only [Int32.le_iff_toInt_le, Int32.lt_iff_toInt_lt, Int32.reduceToInt] at *; omega)⟩
    · have g6 := xf_ge h6
      refine xS.s1 rfl rfl ?_
      try dsimp only [Nat.reduceAdd, xi_1]
      refine xS.s1 rfl rfl ?_
      try dsimp only [Nat.reduceAdd]
      refine xS.ret rfl rfl rfl (fun _ _ => rfl) ?_
      exact ⟨rfl, by split <;> first | rfl | (exfalso; simp only [Int32.le_iff_toInt_le, Int32.lt_iff_toInt_lt, Int32.reduceToInt] at *; omega)⟩

theorem c_X11_isRow_in (ht : t < 6) : xT (k + 1) 123 [.int (nI t)] (xH b g l) (fun r M' => M' = xH b g l ∧ r = some (.int 1)) := by
  refine (c_X11_isRow).weak (fun r M' h => ⟨h.1, ?_⟩)
  rw [h.2, if_pos ⟨nI_pos' (by omega), nI_lt (b := 6) ht (by omega)⟩]

theorem c_X11_isText_in (ht : t < 4) : xT (k + 1) 124 [.int (nI t)] (xH b g l) (fun r M' => M' = xH b g l ∧ r = some (.int 1)) := by
  refine (c_X11_isText).weak (fun r M' h => ⟨h.1, ?_⟩)
  rw [h.2, if_pos ⟨nI_pos' (by omega), nI_lt (b := 4) ht (by omega)⟩]

theorem c_X11_isKept_in (ht : t < 3) : xT (k + 1) 125 [.int (nI t)] (xH b g l) (fun r M' => M' = xH b g l ∧ r = some (.int 1)) := by
  refine (c_X11_isKept).weak (fun r M' h => ⟨h.1, ?_⟩)
  rw [h.2, if_pos ⟨nI_pos' (by omega), nI_lt (b := 3) ht (by omega)⟩]

set_option maxRecDepth 10000 in
theorem c_X11_isGlass (hb : xro b.1) : xT (k + 2) 127 [.ref 0, .int x] (xH b g l) (fun r M' => M' = xH b g l ∧ r = some (.int (if 0 ≤ x ∧ x < g b.1 2 then 1 else 0))) := by
  refine xT.of rfl (Nat.le_of_ble_eq_true rfl) ?_
  dsimp only [lv_args]
  refine xS.s1 rfl rfl ?_
  try dsimp only [Nat.reduceAdd]
  refine xS.br0 (c := .lt) (off := 18) (l := 3) rfl rfl (fun h1 => ?_) (fun h1 => ?_)
  · have g1 := xt_lt h1
    refine xS.s1 rfl rfl ?_
    try dsimp only [Nat.reduceAdd, xi_0]
    refine xS.ret rfl rfl rfl (fun _ _ => rfl) ?_
    exact ⟨rfl, by split <;> first | rfl | (exfalso; simp only [Int32.le_iff_toInt_le, Int32.lt_iff_toInt_lt, Int32.reduceToInt] at *; omega)⟩
  · have g1 := xf_lt h1
    refine xS.s1 rfl rfl ?_
    try dsimp only [Nat.reduceAdd]
    refine xS.s1 rfl rfl ?_
    try dsimp only [Nat.reduceAdd]
    refine xS.gR rfl rfl rfl ⟨by decide, rfl⟩ rfl ?_
    try dsimp only [Nat.reduceAdd]
    -- 9 yX8_glasses
    refine xS.cv rfl rfl rfl (hb.1 _) rfl rfl ⟨by decide, rfl, rfl⟩ (c_X8_glasses hb) (fun v M1 hv => ?_)
    rw [hv.1, hv.2]
    clear hv M1 v
    try dsimp only [Nat.reduceAdd, Option.toList, List.cons_append, List.nil_append, List.drop]
    refine xS.br (c := .ge) (off := 7) (l := 3) rfl rfl (fun h12 => ?_) (fun h12 => ?_)
    · have g12 := xt_ge h12
      refine xS.s1 rfl rfl ?_
      try dsimp only [Nat.reduceAdd, xi_0]
      refine xS.ret rfl rfl rfl (fun _ _ => rfl) ?_
      exact ⟨rfl, by split <;> first | rfl | (exfalso; simp only [Int32.le_iff_toInt_le, Int32.lt_iff_toInt_lt, Int32.reduceToInt] at *; omega)⟩
    · have g12 := xf_ge h12
      refine xS.s1 rfl rfl ?_
      try dsimp only [Nat.reduceAdd, xi_1]
      refine xS.s1 rfl rfl ?_
      try dsimp only [Nat.reduceAdd]
      refine xS.ret rfl rfl rfl (fun _ _ => rfl) ?_
      exact ⟨rfl, by split <;> first | rfl | (exfalso; simp only [Int32.le_iff_toInt_le, Int32.lt_iff_toInt_lt, Int32.reduceToInt] at *; omega)⟩

theorem c_X11_isGlass_in (hb : xro b.1) (hR : xRm g b.1 G T Lw) (ht : t < G) : xT (k + 2) 127 [.ref 0, .int (nI t)] (xH b g l) (fun r M' => M' = xH b g l ∧ r = some (.int 1)) := by
  refine (c_X11_isGlass hb).weak (fun r M' h => ⟨h.1, ?_⟩)
  have := hR.1.2
  rw [h.2, hR.1.1, if_pos ⟨nI_pos' (by omega), nI_lt ht (by omega)⟩]

set_option maxRecDepth 10000 in
theorem c_X11_findingOfPlace (hC : xce a n) : xT (k + 2) 128 [.ref a, .int i] (xH b g l) (fun r M' => M' = xH b g l ∧ r = some (.int (if g a 1 = -1 then 1 else if 0 ≤ i ∧ i < g a 1 ∧ i < nI n then 0 else 2))) := by
  refine xT.of rfl (Nat.le_of_ble_eq_true rfl) ?_
  dsimp only [lv_args]
  refine xS.s1 rfl rfl ?_
  try dsimp only [Nat.reduceAdd]
  -- 1 yX0_isMissing
  refine xS.cv rfl rfl rfl (hC.1 _) rfl rfl ⟨by decide, rfl, rfl⟩ (c_X0_isMissing hC) (fun v M1 hv => ?_)
  rw [hv.1, hv.2]
  clear hv M1 v
  try dsimp only [Nat.reduceAdd, Option.toList, List.cons_append, List.nil_append, List.drop]
  refine xS.br0 (c := .eq) (off := 5) (l := 3) rfl rfl (fun h4 => ?_) (fun h4 => ?_)
  · have g4 := xt_eq h4
    refine xS.s1 rfl rfl ?_
    try dsimp only [Nat.reduceAdd]
    refine xS.s1 rfl rfl ?_
    try dsimp only [Nat.reduceAdd]
    -- 11 yX0_has
    refine xS.cv rfl rfl rfl (hC.1 _) rfl rfl ⟨by decide, rfl, rfl⟩ (c_X0_has hC) (fun v M1 hv => ?_)
    rw [hv.1, hv.2]
    clear hv M1 v
    try dsimp only [Nat.reduceAdd, Option.toList, List.cons_append, List.nil_append, List.drop]
    refine xS.br0 (c := .eq) (off := 7) (l := 3) rfl rfl (fun h14 => ?_) (fun h14 => ?_)
    · have g14 := xt_eq h14
      refine xS.s1 rfl rfl ?_
      try dsimp only [Nat.reduceAdd, xi_2]
      refine xS.ret rfl rfl rfl (fun _ _ => rfl) ?_
      refine ⟨rfl, ?_⟩
      first | (rw [if_neg (xif0 g4), if_neg (xif0 g14)]; done) | (rw [if_neg (xif0 g4), if_pos (xif1 g14)]; done)
    · have g14 := xf_eq h14
      refine xS.s1 rfl rfl ?_
      try dsimp only [Nat.reduceAdd, xi_0]
      refine xS.s1 rfl rfl ?_
      try dsimp only [Nat.reduceAdd]
      refine xS.ret rfl rfl rfl (fun _ _ => rfl) ?_
      refine ⟨rfl, ?_⟩
      first | (rw [if_neg (xif0 g4), if_neg (xif0 g14)]; done) | (rw [if_neg (xif0 g4), if_pos (xif1 g14)]; done)
  · have g4 := xf_eq h4
    refine xS.s1 rfl rfl ?_
    try dsimp only [Nat.reduceAdd, xi_1]
    refine xS.ret rfl rfl rfl (fun _ _ => rfl) ?_
    refine ⟨rfl, ?_⟩
    rw [if_pos (xif1 g4)]

set_option maxRecDepth 10000 in
theorem c_X11_findingOfSteps (hC : xce a n) (hz : xsz (g a 1) n) (ht : t < 2 ^ 31) : xT (k + 3) 129 [.ref a, .int (nI t)] (xH b g l) (fun r M' => M' = xH b g l ∧ r = some (.int (nI (xfos (g a 1) (g (a + 1)) t)))) := by
  refine xT.of rfl (Nat.le_of_ble_eq_true rfl) ?_
  dsimp only [lv_args]
  refine xS.s1 rfl rfl ?_
  try dsimp only [Nat.reduceAdd]
  -- 1 yX0_isMissing
  refine xS.cv rfl rfl rfl (hC.1 _) rfl rfl ⟨by decide, rfl, rfl⟩ (c_X0_isMissing hC) (fun v M1 hv => ?_)
  rw [hv.1, hv.2]
  clear hv M1 v
  try dsimp only [Nat.reduceAdd, Option.toList, List.cons_append, List.nil_append, List.drop]
  refine xS.br0 (c := .eq) (off := 5) (l := 3) rfl rfl (fun h4 => ?_) (fun h4 => ?_)
  · have g4 := xt_eq h4
    refine xS.s1 rfl rfl ?_
    try dsimp only [Nat.reduceAdd]
    -- 10 yX0_size
    refine xS.cv rfl rfl rfl (hC.1 _) rfl rfl ⟨by decide, rfl, rfl⟩ (c_X0_size hC) (fun v M1 hv => ?_)
    rw [hv.1, hv.2]
    clear hv M1 v
    try dsimp only [Nat.reduceAdd, Option.toList, List.cons_append, List.nil_append, List.drop]
    refine xS.s1 rfl rfl ?_
    try dsimp only [Nat.reduceAdd]
    refine xS.br (c := .le) (off := 5) (l := 3) rfl rfl (fun h14 => ?_) (fun h14 => ?_)
    · have g14 := xt_le h14
      obtain ⟨m, hm, hs⟩ : ∃ m, m ≤ n ∧ g a 1 = nI m := by
        rcases hz with h | h
        · exact absurd h (xif0 g4)
        · exact h
      have hn := xn31 hC.2
      refine xS.s1 rfl rfl ?_
      try dsimp only [Nat.reduceAdd, xi_0]
      refine xS.s1 rfl rfl ?_
      try dsimp only [Nat.reduceAdd]
      refine xS.pick [0, 1] rfl ?_
      refine xS.loop (σ := Unit) (m) (fun j S => [(2, .int (nI j)), (0, .ref a)]) (fun _ _ => xH b g l) (fun j _ => xfst (xnst (g (a + 1))) j = none) (()) (rfl) (rfl) (rfl) ?_
      intro j S hj hI ih
      try dsimp only
      refine xS.s1 rfl rfl ?_
      try dsimp only [Nat.reduceAdd]
      refine xS.s1 rfl rfl ?_
      try dsimp only [Nat.reduceAdd]
      -- 23 yX0_size
      refine xS.cv rfl rfl rfl (hC.1 _) rfl rfl ⟨by decide, rfl, rfl⟩ (c_X0_size hC) (fun v M1 hv => ?_)
      rw [hv.1, hv.2]
      clear hv M1 v
      try dsimp only [Nat.reduceAdd, Option.toList, List.cons_append, List.nil_append, List.drop]
      refine xS.br (c := .ge) (off := 22) (l := 3) rfl rfl (fun h26 => ?_) (fun h26 => ?_)
      · have g26 := xt_ge h26
        rw [hs] at g26
        refine xS.s1 rfl rfl ?_
        try dsimp only [Nat.reduceAdd, xi_0]
        refine xS.ret rfl rfl rfl (fun _ _ => rfl) ?_
        refine ⟨rfl, ?_⟩
        unfold xfos
        have e := xnle g26 (by omega) (by omega)
        rw [if_neg (xif0 g4), if_neg (Int32.not_lt.mpr g14), hs, xN_nI (by omega), show m = j by omega, hI]
        rfl
      · have g26 := xf_ge h26
        rw [hs] at g26
        have hlt := xnlt g26 (by omega) (by omega)
        refine xS.s1 rfl rfl ?_
        try dsimp only [Nat.reduceAdd]
        refine xS.s1 rfl rfl ?_
        try dsimp only [Nat.reduceAdd]
        -- 31 yX0_get
        refine xS.cv rfl rfl rfl (hC.1 _) rfl rfl ⟨by decide, rfl, rfl⟩ (c_X0_get hC hs hm hlt) (fun v M1 hv => ?_)
        rw [hv.1, hv.2]
        clear hv M1 v
        try dsimp only [Nat.reduceAdd, Option.toList, List.cons_append, List.nil_append, List.drop]
        -- 34 yX11_isStep
        refine xS.callS rfl rfl rfl ⟨Nat.le_of_ble_eq_true rfl, rfl⟩ c_X11_isStep (fun v M1 hv => ?_)
        rw [hv.1, hv.2]
        clear hv M1 v
        try dsimp only [Nat.reduceAdd, Option.toList, List.cons_append, List.nil_append, List.drop]
        refine xS.br0 (c := .ne) (off := 5) (l := 3) rfl rfl (fun h37 => ?_) (fun h37 => ?_)
        · have g37 := xt_ne h37
          refine xS.s1 rfl rfl ?_
          try dsimp only [Nat.reduceAdd, xi_1]
          rw [nI_1]
          refine xS.s1 rfl rfl ?_
          try dsimp only [Nat.reduceAdd]
          refine xS.pick [0, 1] rfl ?_
          exact ih () (by omega) (xfst_n hI (by simp [xnst, xif1 g37]))
        · have g37 := xf_ne h37
          refine xS.s1 rfl rfl ?_
          try dsimp only [Nat.reduceAdd, xi_3]
          refine xS.ret rfl rfl rfl (fun _ _ => rfl) ?_
          refine ⟨rfl, ?_⟩
          unfold xfos
          rw [if_neg (xif0 g4), if_neg (Int32.not_lt.mpr g14), hs, xN_nI (by omega), xfst_at hI (by simp [xnst, xif0 g37]) hlt]
          rfl
    · have g14 := xf_le h14
      refine xS.s1 rfl rfl ?_
      try dsimp only [Nat.reduceAdd, xi_5]
      refine xS.ret rfl rfl rfl (fun _ _ => rfl) ?_
      refine ⟨rfl, ?_⟩
      unfold xfos
      rw [if_neg (xif0 g4), if_pos g14]
      rfl
  · have g4 := xf_eq h4
    refine xS.s1 rfl rfl ?_
    try dsimp only [Nat.reduceAdd, xi_1]
    refine xS.ret rfl rfl rfl (fun _ _ => rfl) ?_
    refine ⟨rfl, ?_⟩
    unfold xfos
    rw [if_pos (xif1 g4)]
    rfl


set_option maxRecDepth 10000 in
theorem c_X11_paneOf (hb : xro b.1) (hR : xRm g b.1 G T Lw) (ht : t < G) : xT (k + 2) 132 [.ref 0, .int (nI t)] (xH b g l) (fun r M' => M' = xH b g l ∧ r = some (.ref (43 + Lw t))) := by
  refine xT.of rfl (Nat.le_of_ble_eq_true rfl) ?_
  dsimp only [lv_args]
  refine xS.s1 rfl rfl ?_
  try dsimp only [Nat.reduceAdd]
  refine xS.gR rfl rfl rfl ⟨by decide, rfl⟩ rfl ?_
  try dsimp only [Nat.reduceAdd]
  refine xS.s1 rfl rfl ?_
  try dsimp only [Nat.reduceAdd]
  -- 5 yX8_lawOf
  refine xS.cv rfl rfl rfl (hb.1 _) rfl rfl ⟨by decide, rfl, rfl⟩ (c_X8_lawOf hb hR.1.1 hR.1.2 ht) (fun v M1 hv => ?_)
  rw [hv.1, hv.2, (hR.2.2.1 t ht).1]
  clear hv M1 v
  have hL := (hR.2.2.1 t ht).2
  try dsimp only [Nat.reduceAdd, Option.toList, List.cons_append, List.nil_append, List.drop]
  refine xS.s1 rfl rfl ?_
  try dsimp only [Nat.reduceAdd]
  refine xS.s1 rfl rfl ?_
  try dsimp only [Nat.reduceAdd]
  refine xS.br0 (c := .lt) (off := 18) (l := 3) rfl rfl (fun h10 => ?_) (fun h10 => ?_)
  · have g10 := xt_lt h10
    exact absurd g10 (nI_pos (by omega))
  · have g10 := xf_lt h10
    refine xS.s1 rfl rfl ?_
    try dsimp only [Nat.reduceAdd]
    refine xS.s1 rfl rfl ?_
    try dsimp only [Nat.reduceAdd, xj_24]
    refine xS.br (c := .ge) (off := 12) (l := 3) rfl rfl (fun h16 => ?_) (fun h16 => ?_)
    · have g16 := xt_ge h16
      exfalso; have := (nI_leI (a := 24) (b := Lw t) (by omega) (by omega)).mp g16; omega
    · have g16 := xf_ge h16
      refine xS.s1 rfl rfl ?_
      try dsimp only [Nat.reduceAdd]
      refine xS.gR rfl rfl rfl ⟨by decide, rfl⟩ rfl ?_
      try dsimp only [Nat.reduceAdd]
      refine xS.s1 rfl rfl ?_
      try dsimp only [Nat.reduceAdd]
      refine xS.aR rfl rfl (by decide) (by omega) (xsh3_get (by omega)) ?_
      try dsimp only [Nat.reduceAdd]
      refine xS.s1 rfl rfl ?_
      try dsimp only [Nat.reduceAdd]
      refine xS.ret rfl rfl rfl (fun _ _ => rfl) ?_
      exact ⟨rfl, rfl⟩

end
end
section
/-! LimpMirror: private methods with loops -/
section
variable {k a c n n2 m t p s d i1 j1 : Nat} {b : Nat × Nat} {g : Nat → Nat → Int32} {l : Nat → Nat → Int64} {i j x y z v w : Int32} {u w1 w2 : Int64}
variable {L G T : Nat} {Lw : Nat → Nat}
set_option maxRecDepth 10000 in
theorem c_X11_findingOfPair (hC : xce a n) (hz : xsz (g a 1) n) (hF : xce c n2) (hz2 : xsz (g c 1) n2) (ht : t < 2 ^ 31) : xT (k + 4) 130 [.ref a, .ref c, .int (nI t)] (xH b g l) (fun r M' => M' = xH b g l ∧ r = some (.int (nI (xfop (g a 1) (g (a + 1)) (g c 1) (g (c + 1)) t)))) := by
  refine xT.of rfl (Nat.le_of_ble_eq_true rfl) ?_
  dsimp only [lv_args]
  refine xS.s1 rfl rfl ?_
  try dsimp only [Nat.reduceAdd]
  refine xS.s1 rfl rfl ?_
  try dsimp only [Nat.reduceAdd]
  -- 2 yX11_findingOfSteps
  refine xS.callS rfl rfl rfl ⟨Nat.le_of_ble_eq_true rfl, rfl⟩ (c_X11_findingOfSteps hC hz ht) (fun v M1 hv => ?_)
  rw [hv.1, hv.2]
  clear hv M1 v
  try dsimp only [Nat.reduceAdd, Option.toList, List.cons_append, List.nil_append, List.drop]
  refine xS.s1 rfl rfl ?_
  try dsimp only [Nat.reduceAdd]
  refine xS.s1 rfl rfl ?_
  try dsimp only [Nat.reduceAdd]
  refine xS.br0 (c := .ne) (off := 9) (l := 3) rfl rfl (fun h7 => ?_) (fun h7 => ?_)
  · have g7 := xt_ne h7
    refine xS.s1 rfl rfl ?_
    try dsimp only [Nat.reduceAdd]
    refine xS.br0 (c := .ne) (off := 16) (l := 3) rfl rfl (fun h17 => ?_) (fun h17 => ?_)
    · have g17 := xt_ne h17
      refine xS.s1 rfl rfl ?_
      try dsimp only [Nat.reduceAdd]
      refine xS.ret rfl rfl rfl (fun _ _ => rfl) ?_
      refine ⟨rfl, ?_⟩
      unfold xfop
      have l1 := xfos_le (g a 1) (g (a + 1)) t
      have l2 := xfos_le (g c 1) (g (c + 1)) t
      have e7 : xfos (g a 1) (g (a + 1)) t ≠ 0 := fun z => g7 (by rw [z]; rfl)
      rw [if_pos e7]
    · have g17 := xf_ne h17
      refine xS.s1 rfl rfl ?_
      try dsimp only [Nat.reduceAdd]
      -- 21 yX0_size
      refine xS.cv rfl rfl rfl (hC.1 _) rfl rfl ⟨by decide, rfl, rfl⟩ (c_X0_size hC) (fun v M1 hv => ?_)
      rw [hv.1, hv.2]
      clear hv M1 v
      try dsimp only [Nat.reduceAdd, Option.toList, List.cons_append, List.nil_append, List.drop]
      refine xS.s1 rfl rfl ?_
      try dsimp only [Nat.reduceAdd]
      -- 25 yX0_size
      refine xS.cv rfl rfl rfl (hF.1 _) rfl rfl ⟨by decide, rfl, rfl⟩ (c_X0_size hF) (fun v M1 hv => ?_)
      rw [hv.1, hv.2]
      clear hv M1 v
      try dsimp only [Nat.reduceAdd, Option.toList, List.cons_append, List.nil_append, List.drop]
      refine xS.br (c := .eq) (off := 5) (l := 3) rfl rfl (fun h28 => ?_) (fun h28 => ?_)
      · have g28 := xt_eq h28
        refine xS.s1 rfl rfl ?_
        try dsimp only [Nat.reduceAdd]
        refine xS.ret rfl rfl rfl (fun _ _ => rfl) ?_
        exact absurd g17 g7
      · have g28 := xf_eq h28
        refine xS.s1 rfl rfl ?_
        try dsimp only [Nat.reduceAdd, xi_5]
        refine xS.s1 rfl rfl ?_
        try dsimp only [Nat.reduceAdd]
        refine xS.s1 rfl rfl ?_
        try dsimp only [Nat.reduceAdd]
        refine xS.ret rfl rfl rfl (fun _ _ => rfl) ?_
        exact absurd g17 g7
  · have g7 := xf_ne h7
    refine xS.s1 rfl rfl ?_
    try dsimp only [Nat.reduceAdd]
    refine xS.s1 rfl rfl ?_
    try dsimp only [Nat.reduceAdd]
    -- 12 yX11_findingOfSteps
    refine xS.callS rfl rfl rfl ⟨Nat.le_of_ble_eq_true rfl, rfl⟩ (c_X11_findingOfSteps hF hz2 ht) (fun v M1 hv => ?_)
    rw [hv.1, hv.2]
    clear hv M1 v
    try dsimp only [Nat.reduceAdd, Option.toList, List.cons_append, List.nil_append, List.drop]
    refine xS.s1 rfl rfl ?_
    try dsimp only [Nat.reduceAdd]
    refine xS.s1 rfl rfl ?_
    try dsimp only [Nat.reduceAdd]
    refine xS.br0 (c := .ne) (off := 16) (l := 3) rfl rfl (fun h17 => ?_) (fun h17 => ?_)
    · have g17 := xt_ne h17
      refine xS.s1 rfl rfl ?_
      try dsimp only [Nat.reduceAdd]
      refine xS.ret rfl rfl rfl (fun _ _ => rfl) ?_
      refine ⟨rfl, ?_⟩
      unfold xfop
      have l1 := xfos_le (g a 1) (g (a + 1)) t
      have l2 := xfos_le (g c 1) (g (c + 1)) t
      have e7 : xfos (g a 1) (g (a + 1)) t = 0 := (nI_eq (b := 0) (by omega) (by omega)).mp g7
      rw [if_neg (by omega)]
      have e17 : xfos (g c 1) (g (c + 1)) t ≠ 0 := fun z => g17 (by rw [z]; rfl)
      rw [if_pos e17]
    · have g17 := xf_ne h17
      refine xS.s1 rfl rfl ?_
      try dsimp only [Nat.reduceAdd]
      -- 21 yX0_size
      refine xS.cv rfl rfl rfl (hC.1 _) rfl rfl ⟨by decide, rfl, rfl⟩ (c_X0_size hC) (fun v M1 hv => ?_)
      rw [hv.1, hv.2]
      clear hv M1 v
      try dsimp only [Nat.reduceAdd, Option.toList, List.cons_append, List.nil_append, List.drop]
      refine xS.s1 rfl rfl ?_
      try dsimp only [Nat.reduceAdd]
      -- 25 yX0_size
      refine xS.cv rfl rfl rfl (hF.1 _) rfl rfl ⟨by decide, rfl, rfl⟩ (c_X0_size hF) (fun v M1 hv => ?_)
      rw [hv.1, hv.2]
      clear hv M1 v
      try dsimp only [Nat.reduceAdd, Option.toList, List.cons_append, List.nil_append, List.drop]
      refine xS.br (c := .eq) (off := 5) (l := 3) rfl rfl (fun h28 => ?_) (fun h28 => ?_)
      · have g28 := xt_eq h28
        refine xS.s1 rfl rfl ?_
        try dsimp only [Nat.reduceAdd]
        refine xS.ret rfl rfl rfl (fun _ _ => rfl) ?_
        refine ⟨rfl, ?_⟩
        unfold xfop
        have l1 := xfos_le (g a 1) (g (a + 1)) t
        have l2 := xfos_le (g c 1) (g (c + 1)) t
        have e7 : xfos (g a 1) (g (a + 1)) t = 0 := (nI_eq (b := 0) (by omega) (by omega)).mp g7
        rw [if_neg (by omega)]
        have e17 : xfos (g c 1) (g (c + 1)) t = 0 := (nI_eq (b := 0) (by omega) (by omega)).mp g17
        rw [if_neg (by omega)]
        rw [if_pos g28, e17]
      · have g28 := xf_eq h28
        refine xS.s1 rfl rfl ?_
        try dsimp only [Nat.reduceAdd, xi_5]
        refine xS.s1 rfl rfl ?_
        try dsimp only [Nat.reduceAdd]
        refine xS.s1 rfl rfl ?_
        try dsimp only [Nat.reduceAdd]
        refine xS.ret rfl rfl rfl (fun _ _ => rfl) ?_
        refine ⟨rfl, ?_⟩
        unfold xfop
        have l1 := xfos_le (g a 1) (g (a + 1)) t
        have l2 := xfos_le (g c 1) (g (c + 1)) t
        have e7 : xfos (g a 1) (g (a + 1)) t = 0 := (nI_eq (b := 0) (by omega) (by omega)).mp g7
        rw [if_neg (by omega)]
        have e17 : xfos (g c 1) (g (c + 1)) t = 0 := (nI_eq (b := 0) (by omega) (by omega)).mp g17
        rw [if_neg (by omega)]
        rw [if_neg g28]
        rfl

set_option maxRecDepth 10000 in
theorem c_X11_glassFact_0 (hb : xro b.1) (hR : xRm g b.1 G T Lw) (hp : xpn g) (hs : g 4 1 = nI m) (hm : m ≤ 40) (hk : s < G) : xT (k + 3) 133 [.ref 0, .int (nI s), .int (nI 0)] (xH b g l) (fun r M' => M' = xH b g l ∧ r = some (.int (nI (Lw s / 4)))) := by
  refine xT.of rfl (Nat.le_of_ble_eq_true rfl) ?_
  dsimp only [lv_args]
  refine xS.s1 rfl rfl ?_
  try dsimp only [Nat.reduceAdd]
  refine xS.s1 rfl rfl ?_
  try dsimp only [Nat.reduceAdd]
  refine xS.s1 rfl rfl ?_
  try dsimp only [Nat.reduceAdd]
  refine xS.s1 rfl rfl ?_
  try dsimp only [Nat.reduceAdd]
  -- 30 yX11_paneOf
  refine xS.cv rfl rfl rfl rfl rfl rfl ⟨by decide, rfl, rfl⟩ (c_X11_paneOf hb hR hk) (fun v M1 hv => ?_)
  rw [hv.1, hv.2]
  clear hv M1 v
  try dsimp only [Nat.reduceAdd, Option.toList, List.cons_append, List.nil_append, List.drop]
  refine xS.cKind rfl rfl hp (hR.2.2.1 s hk).2 rfl ?_
  try dsimp only [Nat.reduceAdd]
  refine xS.ret rfl rfl rfl (fun _ _ => rfl) ?_
  exact ⟨rfl, rfl⟩

set_option maxRecDepth 10000 in
theorem c_X11_glassFact_1 (hb : xro b.1) (hR : xRm g b.1 G T Lw) (hp : xpn g) (hs : g 4 1 = nI m) (hm : m ≤ 40) (hk : s < G) : xT (k + 3) 133 [.ref 0, .int (nI s), .int (nI 1)] (xH b g l) (fun r M' => M' = xH b g l ∧ r = some (.int (nI (Lw s % 4)))) := by
  refine xT.of rfl (Nat.le_of_ble_eq_true rfl) ?_
  dsimp only [lv_args]
  refine xS.s1 rfl rfl ?_
  try dsimp only [Nat.reduceAdd]
  refine xS.s1 rfl rfl ?_
  try dsimp only [Nat.reduceAdd]
  refine xS.s1 rfl rfl ?_
  try dsimp only [Nat.reduceAdd]
  refine xS.s1 rfl rfl ?_
  try dsimp only [Nat.reduceAdd]
  -- 39 yX11_paneOf
  refine xS.cv rfl rfl rfl rfl rfl rfl ⟨by decide, rfl, rfl⟩ (c_X11_paneOf hb hR hk) (fun v M1 hv => ?_)
  rw [hv.1, hv.2]
  clear hv M1 v
  try dsimp only [Nat.reduceAdd, Option.toList, List.cons_append, List.nil_append, List.drop]
  refine xS.cDelay rfl rfl hp (hR.2.2.1 s hk).2 rfl ?_
  try dsimp only [Nat.reduceAdd]
  refine xS.ret rfl rfl rfl (fun _ _ => rfl) ?_
  exact ⟨rfl, rfl⟩

set_option maxRecDepth 10000 in
theorem c_X11_glassFact_2 (hb : xro b.1) (hR : xRm g b.1 G T Lw) (hp : xpn g) (hs : g 4 1 = nI m) (hm : m ≤ 40) (hk : s < G) : xT (k + 3) 133 [.ref 0, .int (nI s), .int (nI 2)] (xH b g l) (fun r M' => M' = xH b g l ∧ r = some (.int (nI (xcnt (fun d => decide (g 5 (4 * d + 1) = nI s)) m)))) := by
  refine xT.of rfl (Nat.le_of_ble_eq_true rfl) ?_
  dsimp only [lv_args]
  refine xS.s1 rfl rfl ?_
  try dsimp only [Nat.reduceAdd]
  refine xS.s1 rfl rfl ?_
  try dsimp only [Nat.reduceAdd]
  refine xS.s1 rfl rfl ?_
  try dsimp only [Nat.reduceAdd]
  refine xS.gR rfl rfl rfl ⟨by decide, rfl⟩ rfl ?_
  try dsimp only [Nat.reduceAdd]
  refine xS.s1 rfl rfl ?_
  try dsimp only [Nat.reduceAdd]
  -- 51 yX2_howManyBefore
  refine xS.cv rfl rfl rfl (xde_deeds.1 _) rfl rfl ⟨by decide, rfl, rfl⟩ (c_X2_howManyBefore xde_deeds hs hm) (fun v M1 hv => ?_)
  rw [hv.1, hv.2]
  clear hv M1 v
  try dsimp only [Nat.reduceAdd, Option.toList, List.cons_append, List.nil_append, List.drop]
  refine xS.ret rfl rfl rfl (fun _ _ => rfl) ?_
  exact ⟨rfl, rfl⟩

set_option maxRecDepth 10000 in
theorem c_X11_glassFact_3 (hb : xro b.1) (hR : xRm g b.1 G T Lw) (hp : xpn g) (hs : g 4 1 = nI m) (hm : m ≤ 40) (hk : s < G) : xT (k + 3) 133 [.ref 0, .int (nI s), .int (nI 3)] (xH b g l) (fun r M' => M' = xH b g l ∧ r = some (.int (nI (xcnt (fun d => decide (g 5 (4 * d + 1) = nI s) && !decide (g 5 (4 * d + 3) = -9)) m)))) := by
  refine xT.of rfl (Nat.le_of_ble_eq_true rfl) ?_
  dsimp only [lv_args]
  refine xS.s1 rfl rfl ?_
  try dsimp only [Nat.reduceAdd]
  refine xS.s1 rfl rfl ?_
  try dsimp only [Nat.reduceAdd]
  refine xS.s1 rfl rfl ?_
  try dsimp only [Nat.reduceAdd]
  refine xS.gR rfl rfl rfl ⟨by decide, rfl⟩ rfl ?_
  try dsimp only [Nat.reduceAdd]
  refine xS.s1 rfl rfl ?_
  try dsimp only [Nat.reduceAdd]
  -- 60 yX2_howManyBrokeBefore
  refine xS.cv rfl rfl rfl (xde_deeds.1 _) rfl rfl ⟨by decide, rfl, rfl⟩ (c_X2_howManyBrokeBefore xde_deeds hs hm) (fun v M1 hv => ?_)
  rw [hv.1, hv.2]
  clear hv M1 v
  try dsimp only [Nat.reduceAdd, Option.toList, List.cons_append, List.nil_append, List.drop]
  refine xS.ret rfl rfl rfl (fun _ _ => rfl) ?_
  exact ⟨rfl, rfl⟩

def xgf (g : Nat → Nat → Int32) (Lw : Nat → Nat) (m s w : Nat) : Int32 := if w = 0 then nI (Lw s / 4) else if w = 1 then nI (Lw s % 4) else if w = 2 then nI (xcnt (fun d => decide (g 5 (4 * d + 1) = nI s)) m) else nI (xcnt (fun d => decide (g 5 (4 * d + 1) = nI s) && !decide (g 5 (4 * d + 3) = -9)) m)
theorem c_X11_glassFact (hb : xro b.1) (hR : xRm g b.1 G T Lw) (hp : xpn g) (hs : g 4 1 = nI m) (hm : m ≤ 40) (hk : s < G) : ∀ {t : Nat}, t < 4 → xT (k + 3) 133 [.ref 0, .int (nI s), .int (nI t)] (xH b g l) (fun r M' => M' = xH b g l ∧ r = some (.int (xgf g Lw m s t)))
  | 0, _ => c_X11_glassFact_0 hb hR hp hs hm hk
  | 1, _ => c_X11_glassFact_1 hb hR hp hs hm hk
  | 2, _ => c_X11_glassFact_2 hb hR hp hs hm hk
  | 3, _ => c_X11_glassFact_3 hb hR hp hs hm hk
  | _ + 4, h => absurd h (by omega)

set_option maxRecDepth 10000 in
theorem c_X11_noughtsAtDeeds (hb : xro b.1) (hR : xRm g b.1 G T Lw) (hp : xpn g) (hs : g 4 1 = nI m) (hm : m ≤ 40) (hx : ∀ i, i < m → xstp (g 5 (4 * i))) (hL : L < 24) : xT (k + 5) 134 [.ref 0, .ref (43 + L)] (xH b g l) (fun r M' => M' = xH b g l ∧ r = some (.int (nI (xcnt (fun i => decide (xshw (g (b.1 + 1)) (L / 4) (L % 4) (fun i => xN (g 5 (4 * i))) i = 0)) m)))) := by
  refine xT.of rfl (Nat.le_of_ble_eq_true rfl) ?_
  dsimp only [lv_args]
  refine xS.s1 rfl rfl ?_
  try dsimp only [Nat.reduceAdd, xi_0]
  refine xS.s1 rfl rfl ?_
  try dsimp only [Nat.reduceAdd]
  refine xS.s1 rfl rfl ?_
  try dsimp only [Nat.reduceAdd, xi_0]
  refine xS.s1 rfl rfl ?_
  try dsimp only [Nat.reduceAdd]
  refine xS.pick [0, 1, 2, 3] rfl ?_
  refine xS.loop (σ := Unit) (m) (fun j S => [(3, .int (nI j)), (2, .int (nI (xcnt (fun i => decide (xshw (g (b.1 + 1)) (L / 4) (L % 4) (fun i => xN (g 5 (4 * i))) i = 0)) j))), (0, .ref 0), (1, .ref (43 + L))]) (fun _ _ => xH b g l) (fun _ _ => True) (()) (rfl) (rfl) (trivial) ?_
  intro j S hj hI ih
  try dsimp only
  refine xS.s1 rfl rfl ?_
  try dsimp only [Nat.reduceAdd]
  refine xS.s1 rfl rfl ?_
  try dsimp only [Nat.reduceAdd]
  refine xS.gR rfl rfl rfl ⟨by decide, rfl⟩ rfl ?_
  try dsimp only [Nat.reduceAdd]
  -- 9 yX2_size
  refine xS.cv rfl rfl rfl (xde_deeds.1 _) rfl rfl ⟨by decide, rfl, rfl⟩ (c_X2_size xde_deeds) (fun v M1 hv => ?_)
  rw [hv.1, hv.2]
  clear hv M1 v
  try dsimp only [Nat.reduceAdd, Option.toList, List.cons_append, List.nil_append, List.drop]
  refine xS.br (c := .ge) (off := 28) (l := 3) rfl rfl (fun h12 => ?_) (fun h12 => ?_)
  · have g12 := xt_ge h12
    refine xS.s1 rfl rfl ?_
    try dsimp only [Nat.reduceAdd]
    refine xS.ret rfl rfl rfl (fun _ _ => rfl) ?_
    rw [hs] at g12
    have e := xnle g12 (by omega) (by omega)
    rw [show m = j by omega]
    exact ⟨rfl, rfl⟩
  · have g12 := xf_ge h12
    rw [hs] at g12
    have hlt := xnlt g12 (by omega) (by omega)
    refine xS.s1 rfl rfl ?_
    try dsimp only [Nat.reduceAdd]
    refine xS.gR rfl rfl rfl ⟨by decide, rfl⟩ rfl ?_
    try dsimp only [Nat.reduceAdd]
    refine xS.s1 rfl rfl ?_
    try dsimp only [Nat.reduceAdd]
    refine xS.s1 rfl rfl ?_
    try dsimp only [Nat.reduceAdd]
    refine xS.gR rfl rfl rfl ⟨by decide, rfl⟩ rfl ?_
    try dsimp only [Nat.reduceAdd]
    refine xS.s1 rfl rfl ?_
    try dsimp only [Nat.reduceAdd]
    -- 25 yX8_shown
    refine xS.cv rfl rfl rfl (hb.1 _) rfl rfl ⟨by decide, rfl, rfl⟩ (c_X8_shown_D hb xde_deeds hp hL (by omega) hs hm (fun s h => ⟨Nat.lt_of_le_of_lt (xsrc_le h) hlt, hx s (Nat.lt_of_le_of_lt (xsrc_le h) hlt)⟩)) (fun v M1 hv => ?_)
    rw [hv.1, hv.2]
    clear hv M1 v
    try dsimp only [Nat.reduceAdd, Option.toList, List.cons_append, List.nil_append, List.drop]
    refine xS.br0 (c := .ne) (off := 6) (l := 3) rfl rfl (fun h28 => ?_) (fun h28 => ?_)
    · have g28 := xt_ne h28
      refine xS.s1 rfl rfl ?_
      try dsimp only [Nat.reduceAdd, xi_1]
      rw [nI_1]
      refine xS.s1 rfl rfl ?_
      try dsimp only [Nat.reduceAdd]
      refine xS.pick [0, 1, 2, 3] rfl ?_
      have ih2 := ih () (by omega) trivial
      first | (rw [show xcnt (fun i => decide (xshw (g (b.1 + 1)) (L / 4) (L % 4) (fun i => xN (g 5 (4 * i))) i = 0)) (j + 1) = xcnt (fun i => decide (xshw (g (b.1 + 1)) (L / 4) (L % 4) (fun i => xN (g 5 (4 * i))) i = 0)) j from by simp [xcnt_s, g12, g28]] at ih2; exact ih2) | (rw [show xcnt (fun i => decide (xshw (g (b.1 + 1)) (L / 4) (L % 4) (fun i => xN (g 5 (4 * i))) i = 0)) (j + 1) = xcnt (fun i => decide (xshw (g (b.1 + 1)) (L / 4) (L % 4) (fun i => xN (g 5 (4 * i))) i = 0)) j + 1 from by simp [xcnt_s, g12, g28]] at ih2; exact ih2)
    · have g28 := xf_ne h28
      refine xS.s1 rfl rfl ?_
      try dsimp only [Nat.reduceAdd, xi_1]
      rw [nI_1]
      refine xS.s1 rfl rfl ?_
      try dsimp only [Nat.reduceAdd, xi_1]
      rw [nI_1]
      refine xS.s1 rfl rfl ?_
      try dsimp only [Nat.reduceAdd]
      refine xS.pick [0, 1, 2, 3] rfl ?_
      have ih2 := ih () (by omega) trivial
      first | (rw [show xcnt (fun i => decide (xshw (g (b.1 + 1)) (L / 4) (L % 4) (fun i => xN (g 5 (4 * i))) i = 0)) (j + 1) = xcnt (fun i => decide (xshw (g (b.1 + 1)) (L / 4) (L % 4) (fun i => xN (g 5 (4 * i))) i = 0)) j from by simp [xcnt_s, g12, g28]] at ih2; exact ih2) | (rw [show xcnt (fun i => decide (xshw (g (b.1 + 1)) (L / 4) (L % 4) (fun i => xN (g 5 (4 * i))) i = 0)) (j + 1) = xcnt (fun i => decide (xshw (g (b.1 + 1)) (L / 4) (L % 4) (fun i => xN (g 5 (4 * i))) i = 0)) j + 1 from by simp [xcnt_s, g12, g28]] at ih2; exact ih2)

set_option maxRecDepth 10000 in
theorem c_X11_glassesOf (hb : xro b.1) (hR : xRm g b.1 G T Lw) (hp : xpn g) : xT (k + 3) 136 [.ref 0, .int x] (xH b g l) (fun r M' => M' = xH b g l ∧ r = some (.int (nI (xcnt (fun k => xiso (Lw k / 4) x) G)))) := by
  refine xT.of rfl (Nat.le_of_ble_eq_true rfl) ?_
  dsimp only [lv_args]
  refine xS.s1 rfl rfl ?_
  try dsimp only [Nat.reduceAdd, xi_0]
  refine xS.s1 rfl rfl ?_
  try dsimp only [Nat.reduceAdd]
  refine xS.s1 rfl rfl ?_
  try dsimp only [Nat.reduceAdd, xi_0]
  refine xS.s1 rfl rfl ?_
  try dsimp only [Nat.reduceAdd]
  refine xS.pick [0, 1, 2, 3] rfl ?_
  refine xS.loop (σ := Unit) (G) (fun j S => [(3, .int (nI j)), (2, .int (nI (xcnt (fun k => xiso (Lw k / 4) x) j))), (0, .ref 0), (1, .int x)]) (fun _ _ => xH b g l) (fun _ _ => True) (()) (rfl) (rfl) (trivial) ?_
  intro j S hj hI ih
  try dsimp only
  refine xS.s1 rfl rfl ?_
  try dsimp only [Nat.reduceAdd]
  refine xS.s1 rfl rfl ?_
  try dsimp only [Nat.reduceAdd]
  refine xS.gR rfl rfl rfl ⟨by decide, rfl⟩ rfl ?_
  try dsimp only [Nat.reduceAdd]
  -- 9 yX8_glasses
  refine xS.cv rfl rfl rfl (hb.1 _) rfl rfl ⟨by decide, rfl, rfl⟩ (c_X8_glasses hb) (fun v M1 hv => ?_)
  rw [hv.1, hv.2]
  clear hv M1 v
  try dsimp only [Nat.reduceAdd, Option.toList, List.cons_append, List.nil_append, List.drop]
  refine xS.br (c := .ge) (off := 24) (l := 3) rfl rfl (fun h12 => ?_) (fun h12 => ?_)
  · have g12 := xt_ge h12
    refine xS.s1 rfl rfl ?_
    try dsimp only [Nat.reduceAdd]
    refine xS.ret rfl rfl rfl (fun _ _ => rfl) ?_
    have h6 := hR.1.2
    rw [hR.1.1] at g12
    have e := xnle g12 (by omega) (by omega)
    rw [show G = j by omega]
    exact ⟨rfl, rfl⟩
  · have g12 := xf_ge h12
    have h6 := hR.1.2
    rw [hR.1.1] at g12
    have hlt := xnlt g12 (by omega) (by omega)
    refine xS.s1 rfl rfl ?_
    try dsimp only [Nat.reduceAdd]
    refine xS.s1 rfl rfl ?_
    try dsimp only [Nat.reduceAdd]
    -- 17 yX11_paneOf
    refine xS.cv rfl rfl rfl rfl rfl rfl ⟨by decide, rfl, rfl⟩ (c_X11_paneOf hb hR hlt) (fun v M1 hv => ?_)
    rw [hv.1, hv.2]
    clear hv M1 v
    try dsimp only [Nat.reduceAdd, Option.toList, List.cons_append, List.nil_append, List.drop]
    refine xS.s1 rfl rfl ?_
    try dsimp only [Nat.reduceAdd]
    refine xS.cIso rfl rfl hp (hR.2.2.1 j hlt).2 rfl ?_
    try dsimp only [Nat.reduceAdd]
    refine xS.br0 (c := .eq) (off := 6) (l := 3) rfl rfl (fun h24 => ?_) (fun h24 => ?_)
    · have g24 := xt_eq h24
      have e24 := xif0 g24
      refine xS.s1 rfl rfl ?_
      try dsimp only [Nat.reduceAdd, xi_1]
      rw [nI_1]
      refine xS.s1 rfl rfl ?_
      try dsimp only [Nat.reduceAdd]
      refine xS.pick [0, 1, 2, 3] rfl ?_
      have ih2 := ih () (by omega) trivial
      first | (rw [show xcnt (fun k => xiso (Lw k / 4) x) (j + 1) = xcnt (fun k => xiso (Lw k / 4) x) j from by simp [xcnt_s, e24]] at ih2; exact ih2) | (rw [show xcnt (fun k => xiso (Lw k / 4) x) (j + 1) = xcnt (fun k => xiso (Lw k / 4) x) j + 1 from by simp [xcnt_s, e24]] at ih2; exact ih2)
    · have g24 := xf_eq h24
      have e24 := xif1 g24
      refine xS.s1 rfl rfl ?_
      try dsimp only [Nat.reduceAdd, xi_1]
      rw [nI_1]
      refine xS.s1 rfl rfl ?_
      try dsimp only [Nat.reduceAdd, xi_1]
      rw [nI_1]
      refine xS.s1 rfl rfl ?_
      try dsimp only [Nat.reduceAdd]
      refine xS.pick [0, 1, 2, 3] rfl ?_
      have ih2 := ih () (by omega) trivial
      first | (rw [show xcnt (fun k => xiso (Lw k / 4) x) (j + 1) = xcnt (fun k => xiso (Lw k / 4) x) j from by simp [xcnt_s, e24]] at ih2; exact ih2) | (rw [show xcnt (fun k => xiso (Lw k / 4) x) (j + 1) = xcnt (fun k => xiso (Lw k / 4) x) j + 1 from by simp [xcnt_s, e24]] at ih2; exact ih2)

set_option maxRecDepth 10000 in
theorem c_X11_keptOnes  : xT (k + 2) 137 [.ref 0] (xH b g l) (fun r M' => M' = xH b g l ∧ r = some (.int (nI (xcnt (fun k => !decide (g (67 + 2 * k) 1 = -1)) 3)))) := by
  refine xT.of rfl (Nat.le_of_ble_eq_true rfl) ?_
  dsimp only [lv_args]
  refine xS.s1 rfl rfl ?_
  try dsimp only [Nat.reduceAdd, xi_0]
  refine xS.s1 rfl rfl ?_
  try dsimp only [Nat.reduceAdd]
  refine xS.s1 rfl rfl ?_
  try dsimp only [Nat.reduceAdd, xi_0]
  refine xS.s1 rfl rfl ?_
  try dsimp only [Nat.reduceAdd]
  refine xS.pick [0, 1, 2] rfl ?_
  refine xS.loop (σ := Unit) (3) (fun j S => [(2, .int (nI j)), (1, .int (nI (xcnt (fun k => !decide (g (67 + 2 * k) 1 = -1)) j))), (0, .ref 0)]) (fun _ _ => xH b g l) (fun _ _ => True) (()) (rfl) (rfl) (trivial) ?_
  intro j S hj hI ih
  try dsimp only
  refine xS.s1 rfl rfl ?_
  try dsimp only [Nat.reduceAdd]
  refine xS.s1 rfl rfl ?_
  try dsimp only [Nat.reduceAdd, xi_3]
  refine xS.br (c := .ge) (off := 24) (l := 3) rfl rfl (fun h6 => ?_) (fun h6 => ?_)
  · have g6 := xt_ge h6
    refine xS.s1 rfl rfl ?_
    try dsimp only [Nat.reduceAdd]
    refine xS.ret rfl rfl rfl (fun _ _ => rfl) ?_
    have e := xnle (b := 3) g6 (by omega) (by omega)
    rw [show 3 = j by omega]
    exact ⟨rfl, rfl⟩
  · have g6 := xf_ge h6
    have hlt := xnlt (b := 3) g6 (by omega) (by omega)
    refine xS.s1 rfl rfl ?_
    try dsimp only [Nat.reduceAdd]
    refine xS.gR rfl rfl rfl ⟨by decide, rfl⟩ rfl ?_
    try dsimp only [Nat.reduceAdd]
    refine xS.s1 rfl rfl ?_
    try dsimp only [Nat.reduceAdd]
    refine xS.aR rfl rfl (by decide) (by omega) (xsh6_get (by omega)) ?_
    try dsimp only [Nat.reduceAdd]
    -- 15 yX2_isMissing
    refine xS.cv rfl rfl rfl ((xde_kept (r := j) (by omega)).1 _) rfl rfl ⟨by decide, rfl, rfl⟩ (c_X2_isMissing (xde_kept (r := j) (by omega))) (fun v M1 hv => ?_)
    rw [hv.1, hv.2]
    clear hv M1 v
    try dsimp only [Nat.reduceAdd, Option.toList, List.cons_append, List.nil_append, List.drop]
    refine xS.br0 (c := .ne) (off := 6) (l := 3) rfl rfl (fun h18 => ?_) (fun h18 => ?_)
    · have g18 := xt_ne h18
      have e18 := xif1 g18
      refine xS.s1 rfl rfl ?_
      try dsimp only [Nat.reduceAdd, xi_1]
      rw [nI_1]
      refine xS.s1 rfl rfl ?_
      try dsimp only [Nat.reduceAdd]
      refine xS.pick [0, 1, 2] rfl ?_
      have ih2 := ih () (by omega) trivial
      first | (rw [show xcnt (fun k => !decide (g (67 + 2 * k) 1 = -1)) (j + 1) = xcnt (fun k => !decide (g (67 + 2 * k) 1 = -1)) j from by simp [xcnt_s, e18]] at ih2; exact ih2) | (rw [show xcnt (fun k => !decide (g (67 + 2 * k) 1 = -1)) (j + 1) = xcnt (fun k => !decide (g (67 + 2 * k) 1 = -1)) j + 1 from by simp [xcnt_s, e18]] at ih2; exact ih2)
    · have g18 := xf_ne h18
      have e18 := xif0 g18
      refine xS.s1 rfl rfl ?_
      try dsimp only [Nat.reduceAdd, xi_1]
      rw [nI_1]
      refine xS.s1 rfl rfl ?_
      try dsimp only [Nat.reduceAdd, xi_1]
      rw [nI_1]
      refine xS.s1 rfl rfl ?_
      try dsimp only [Nat.reduceAdd]
      refine xS.pick [0, 1, 2] rfl ?_
      have ih2 := ih () (by omega) trivial
      first | (rw [show xcnt (fun k => !decide (g (67 + 2 * k) 1 = -1)) (j + 1) = xcnt (fun k => !decide (g (67 + 2 * k) 1 = -1)) j from by simp [xcnt_s, e18]] at ih2; exact ih2) | (rw [show xcnt (fun k => !decide (g (67 + 2 * k) 1 = -1)) (j + 1) = xcnt (fun k => !decide (g (67 + 2 * k) 1 = -1)) j + 1 from by simp [xcnt_s, e18]] at ih2; exact ih2)

set_option maxRecDepth 10000 in
theorem c_X11_howManyThere_rows  : xT (k + 2) 138 [.ref 1] (xH b g l) (fun r M' => M' = xH b g l ∧ r = some (.int (nI (xcnt (fun k => !decide (g (23 + 2 * k) 1 = -1)) 6)))) := by
  refine xT.of rfl (Nat.le_of_ble_eq_true rfl) ?_
  dsimp only [lv_args]
  refine xS.s1 rfl rfl ?_
  try dsimp only [Nat.reduceAdd, xi_0]
  refine xS.s1 rfl rfl ?_
  try dsimp only [Nat.reduceAdd]
  refine xS.s1 rfl rfl ?_
  try dsimp only [Nat.reduceAdd, xi_0]
  refine xS.s1 rfl rfl ?_
  try dsimp only [Nat.reduceAdd]
  refine xS.pick [0, 1, 2] rfl ?_
  refine xS.loop (σ := Unit) (6) (fun j S => [(2, .int (nI j)), (1, .int (nI (xcnt (fun k => !decide (g (23 + 2 * k) 1 = -1)) j))), (0, .ref 1)]) (fun _ _ => xH b g l) (fun _ _ => True) (()) (rfl) (rfl) (trivial) ?_
  intro j S hj hI ih
  try dsimp only
  refine xS.s1 rfl rfl ?_
  try dsimp only [Nat.reduceAdd]
  refine xS.s1 rfl rfl ?_
  try dsimp only [Nat.reduceAdd]
  refine xS.alo rfl rfl (by decide) rfl ?_
  try dsimp only [Nat.reduceAdd]
  refine xS.br (c := .ge) (off := 21) (l := 3) rfl rfl (fun h7 => ?_) (fun h7 => ?_)
  · have g7 := xt_ge h7
    refine xS.s1 rfl rfl ?_
    try dsimp only [Nat.reduceAdd]
    refine xS.ret rfl rfl rfl (fun _ _ => rfl) ?_
    have e := xnle (b := 6) g7 (by omega) (by omega)
    rw [show 6 = j by omega]
    exact ⟨rfl, rfl⟩
  · have g7 := xf_ge h7
    have hlt := xnlt (b := 6) g7 (by omega) (by omega)
    refine xS.s1 rfl rfl ?_
    try dsimp only [Nat.reduceAdd]
    refine xS.s1 rfl rfl ?_
    try dsimp only [Nat.reduceAdd]
    refine xS.aR rfl rfl (by decide) (by omega) (xsh1_get (by omega)) ?_
    try dsimp only [Nat.reduceAdd]
    -- 13 yX0_isMissing
    refine xS.cv rfl rfl rfl ((xce_row (r := j) (by omega)).1 _) rfl rfl ⟨by decide, rfl, rfl⟩ (c_X0_isMissing (xce_row (r := j) (by omega))) (fun v M1 hv => ?_)
    rw [hv.1, hv.2]
    clear hv M1 v
    try dsimp only [Nat.reduceAdd, Option.toList, List.cons_append, List.nil_append, List.drop]
    refine xS.br0 (c := .ne) (off := 6) (l := 3) rfl rfl (fun h16 => ?_) (fun h16 => ?_)
    · have g16 := xt_ne h16
      have e16 := xif1 g16
      refine xS.s1 rfl rfl ?_
      try dsimp only [Nat.reduceAdd, xi_1]
      rw [nI_1]
      refine xS.s1 rfl rfl ?_
      try dsimp only [Nat.reduceAdd]
      refine xS.pick [0, 1, 2] rfl ?_
      have ih2 := ih () (by omega) trivial
      first | (rw [show xcnt (fun k => !decide (g (23 + 2 * k) 1 = -1)) (j + 1) = xcnt (fun k => !decide (g (23 + 2 * k) 1 = -1)) j from by simp [xcnt_s, e16]] at ih2; exact ih2) | (rw [show xcnt (fun k => !decide (g (23 + 2 * k) 1 = -1)) (j + 1) = xcnt (fun k => !decide (g (23 + 2 * k) 1 = -1)) j + 1 from by simp [xcnt_s, e16]] at ih2; exact ih2)
    · have g16 := xf_ne h16
      have e16 := xif0 g16
      refine xS.s1 rfl rfl ?_
      try dsimp only [Nat.reduceAdd, xi_1]
      rw [nI_1]
      refine xS.s1 rfl rfl ?_
      try dsimp only [Nat.reduceAdd, xi_1]
      rw [nI_1]
      refine xS.s1 rfl rfl ?_
      try dsimp only [Nat.reduceAdd]
      refine xS.pick [0, 1, 2] rfl ?_
      have ih2 := ih () (by omega) trivial
      first | (rw [show xcnt (fun k => !decide (g (23 + 2 * k) 1 = -1)) (j + 1) = xcnt (fun k => !decide (g (23 + 2 * k) 1 = -1)) j from by simp [xcnt_s, e16]] at ih2; exact ih2) | (rw [show xcnt (fun k => !decide (g (23 + 2 * k) 1 = -1)) (j + 1) = xcnt (fun k => !decide (g (23 + 2 * k) 1 = -1)) j + 1 from by simp [xcnt_s, e16]] at ih2; exact ih2)

set_option maxRecDepth 10000 in
theorem c_X11_howManyThere_texts  : xT (k + 2) 138 [.ref 2] (xH b g l) (fun r M' => M' = xH b g l ∧ r = some (.int (nI (xcnt (fun k => !decide (g (35 + 2 * k) 1 = -1)) 4)))) := by
  refine xT.of rfl (Nat.le_of_ble_eq_true rfl) ?_
  dsimp only [lv_args]
  refine xS.s1 rfl rfl ?_
  try dsimp only [Nat.reduceAdd, xi_0]
  refine xS.s1 rfl rfl ?_
  try dsimp only [Nat.reduceAdd]
  refine xS.s1 rfl rfl ?_
  try dsimp only [Nat.reduceAdd, xi_0]
  refine xS.s1 rfl rfl ?_
  try dsimp only [Nat.reduceAdd]
  refine xS.pick [0, 1, 2] rfl ?_
  refine xS.loop (σ := Unit) (4) (fun j S => [(2, .int (nI j)), (1, .int (nI (xcnt (fun k => !decide (g (35 + 2 * k) 1 = -1)) j))), (0, .ref 2)]) (fun _ _ => xH b g l) (fun _ _ => True) (()) (rfl) (rfl) (trivial) ?_
  intro j S hj hI ih
  try dsimp only
  refine xS.s1 rfl rfl ?_
  try dsimp only [Nat.reduceAdd]
  refine xS.s1 rfl rfl ?_
  try dsimp only [Nat.reduceAdd]
  refine xS.alo rfl rfl (by decide) rfl ?_
  try dsimp only [Nat.reduceAdd]
  refine xS.br (c := .ge) (off := 21) (l := 3) rfl rfl (fun h7 => ?_) (fun h7 => ?_)
  · have g7 := xt_ge h7
    refine xS.s1 rfl rfl ?_
    try dsimp only [Nat.reduceAdd]
    refine xS.ret rfl rfl rfl (fun _ _ => rfl) ?_
    have e := xnle (b := 4) g7 (by omega) (by omega)
    rw [show 4 = j by omega]
    exact ⟨rfl, rfl⟩
  · have g7 := xf_ge h7
    have hlt := xnlt (b := 4) g7 (by omega) (by omega)
    refine xS.s1 rfl rfl ?_
    try dsimp only [Nat.reduceAdd]
    refine xS.s1 rfl rfl ?_
    try dsimp only [Nat.reduceAdd]
    refine xS.aR rfl rfl (by decide) (by omega) (xsh2_get (by omega)) ?_
    try dsimp only [Nat.reduceAdd]
    -- 13 yX0_isMissing
    refine xS.cv rfl rfl rfl ((xce_text (r := j) (by omega)).1 _) rfl rfl ⟨by decide, rfl, rfl⟩ (c_X0_isMissing (xce_text (r := j) (by omega))) (fun v M1 hv => ?_)
    rw [hv.1, hv.2]
    clear hv M1 v
    try dsimp only [Nat.reduceAdd, Option.toList, List.cons_append, List.nil_append, List.drop]
    refine xS.br0 (c := .ne) (off := 6) (l := 3) rfl rfl (fun h16 => ?_) (fun h16 => ?_)
    · have g16 := xt_ne h16
      have e16 := xif1 g16
      refine xS.s1 rfl rfl ?_
      try dsimp only [Nat.reduceAdd, xi_1]
      rw [nI_1]
      refine xS.s1 rfl rfl ?_
      try dsimp only [Nat.reduceAdd]
      refine xS.pick [0, 1, 2] rfl ?_
      have ih2 := ih () (by omega) trivial
      first | (rw [show xcnt (fun k => !decide (g (35 + 2 * k) 1 = -1)) (j + 1) = xcnt (fun k => !decide (g (35 + 2 * k) 1 = -1)) j from by simp [xcnt_s, e16]] at ih2; exact ih2) | (rw [show xcnt (fun k => !decide (g (35 + 2 * k) 1 = -1)) (j + 1) = xcnt (fun k => !decide (g (35 + 2 * k) 1 = -1)) j + 1 from by simp [xcnt_s, e16]] at ih2; exact ih2)
    · have g16 := xf_ne h16
      have e16 := xif0 g16
      refine xS.s1 rfl rfl ?_
      try dsimp only [Nat.reduceAdd, xi_1]
      rw [nI_1]
      refine xS.s1 rfl rfl ?_
      try dsimp only [Nat.reduceAdd, xi_1]
      rw [nI_1]
      refine xS.s1 rfl rfl ?_
      try dsimp only [Nat.reduceAdd]
      refine xS.pick [0, 1, 2] rfl ?_
      have ih2 := ih () (by omega) trivial
      first | (rw [show xcnt (fun k => !decide (g (35 + 2 * k) 1 = -1)) (j + 1) = xcnt (fun k => !decide (g (35 + 2 * k) 1 = -1)) j from by simp [xcnt_s, e16]] at ih2; exact ih2) | (rw [show xcnt (fun k => !decide (g (35 + 2 * k) 1 = -1)) (j + 1) = xcnt (fun k => !decide (g (35 + 2 * k) 1 = -1)) j + 1 from by simp [xcnt_s, e16]] at ih2; exact ih2)

end
end
section
/-! LimpMirror: doStep, digestOf and what is shown -/
theorem xRm_fr {g g' : Nat → Nat → Int32} {a G T : Nat} {Lw : Nat → Nat} (h : ∀ i, a ≤ i → i ≤ a + 3 → g' i = g i) (hR : xRm g a G T Lw) : xRm g' a G T Lw := by
  unfold xRm at hR ⊢
  rw [h a (by omega) (by omega), h (a + 1) (by omega) (by omega), h (a + 2) (by omega) (by omega)]
  exact hR
theorem xpn_fr {g g' : Nat → Nat → Int32} (h : ∀ i, 43 ≤ i → i < 67 → g' i = g i) (hR : xpn g) : xpn g' := by
  intro L hL
  rw [h (43 + L) (by omega) (by omega)]
  exact hR L hL
def xad (g : Nat → Nat → Int32) (m : Nat) (x y : Int32) : Nat → Nat → Int32 := up (up (up (up (up g 5 (4 * m) x) 5 (4 * m + 1) y) 5 (4 * m + 2) 0) 5 (4 * m + 3) (-9)) 4 1 (nI (m + 1))
def xdo (g : Nat → Nat → Int32) (m : Nat) (x y w z : Int32) : Nat → Nat → Int32 := up (up (xad g m x y) 5 (4 * m + 2) w) 5 (4 * m + 3) z
theorem xad_na {g : Nat → Nat → Int32} {m a : Nat} {x y : Int32} (h4 : a ≠ 4) (h5 : a ≠ 5) : xad g m x y a = g a := by
  unfold xad
  rw [up_na h4, up_na h5, up_na h5, up_na h5, up_na h5]
theorem xdo_na {g : Nat → Nat → Int32} {m a : Nat} {x y w z : Int32} (h4 : a ≠ 4) (h5 : a ≠ 5) : xdo g m x y w z a = g a := by
  unfold xdo
  rw [up_na h5, up_na h5, xad_na h4 h5]
theorem xad_41 {g : Nat → Nat → Int32} {m : Nat} {x y : Int32} : xad g m x y 4 1 = nI (m + 1) := up_same ..
theorem xad_f {g : Nat → Nat → Int32} {m : Nat} {y : Int32} {s : Nat} (hs : s < 6) : (fun i => xN (xad g m (nI s) y 5 (4 * i))) = fun i => if i = m then s else xN (g 5 (4 * i)) := by
  funext i
  unfold xad
  by_cases e : i = m
  · subst e
    rw [if_pos rfl, up_ne (Or.inl (by decide)), up_ne (Or.inr (by omega)), up_ne (Or.inr (by omega)), up_ne (Or.inr (by omega)), up_same, xN_nI (by omega)]
  · rw [if_neg e, up_ne (Or.inl (by decide)), up_ne (Or.inr (by omega)), up_ne (Or.inr (by omega)), up_ne (Or.inr (by omega)), up_ne (Or.inr (by omega))]
theorem xad_x {g : Nat → Nat → Int32} {m : Nat} {y : Int32} {s i : Nat} (hs : s < 6) (hx : ∀ i, i < m → xstp (g 5 (4 * i))) (hi : i < m + 1) : xstp (xad g m (nI s) y 5 (4 * i)) := by
  unfold xad
  by_cases e : i = m
  · subst e
    rw [up_ne (Or.inl (by decide)), up_ne (Or.inr (by omega)), up_ne (Or.inr (by omega)), up_ne (Or.inr (by omega)), up_same]
    exact ⟨s, hs, rfl⟩
  · rw [up_ne (Or.inl (by decide)), up_ne (Or.inr (by omega)), up_ne (Or.inr (by omega)), up_ne (Or.inr (by omega)), up_ne (Or.inr (by omega))]
    exact hx i (by omega)
def xdg (h : Int64) (v : Int32) : Int64 := 31 * h + v.toInt64
def xdl (f : Nat → Int32) (h : Int64) (n : Nat) : Int64 := Nat.rec (motive := fun _ => Int64) h (fun j c => xdg c (f j)) n
def xdr (S : Int32) (f : Nat → Int32) (h : Int64) : Int64 := xdl f (xdg h S) (xN S)
def xda (S : Nat → Int32) (F : Nat → Nat → Int32) (h : Int64) (n : Nat) : Int64 := Nat.rec (motive := fun _ => Int64) h (fun r c => xdr (S r) (F r) c) n
theorem xN_m1 : xN (-1) = 0 := rfl
theorem xsz_lt {S : Int32} {n j : Nat} (hz : xsz S n) (hn : n < 2 ^ 31) (hj : j < 2 ^ 31) : nI j < S ↔ j < xN S := by
  rcases hz with rfl | ⟨m, h1, rfl⟩
  · rw [xN_m1]
    constructor
    · intro h
      rw [Int32.lt_iff_toInt_lt, nI_toInt hj] at h
      have : (-1 : Int32).toInt = -1 := rfl
      omega
    · intro h
      omega
  · rw [xN_nI (by omega), nI_ltI hj (by omega)]
theorem xsz_N {S : Int32} {n j : Nat} (hz : xsz S n) (hn : n < 2 ^ 31) (h : j < xN S) : S = nI (xN S) ∧ xN S ≤ n := by
  rcases hz with rfl | ⟨m, h1, rfl⟩
  · rw [xN_m1] at h
    omega
  · rw [xN_nI (by omega)]
    exact ⟨rfl, h1⟩
theorem xsz_le {S : Int32} {n : Nat} (hz : xsz S n) (hn : n < 2 ^ 31) : xN S ≤ n := by
  rcases hz with rfl | ⟨m, h1, rfl⟩
  · rw [xN_m1]; omega
  · rw [xN_nI (by omega)]; exact h1

theorem xif0n {p : Prop} [Decidable p] (h : (if p then (0 : Int32) else 1) = 0) : p := by
  by_cases hp : p
  · exact hp
  · rw [if_neg hp] at h
    exact absurd h (by decide)
theorem xif1n {p : Prop} [Decidable p] (h : ¬ (if p then (0 : Int32) else 1) = 0) : ¬ p := fun hp => by
  rw [if_pos hp] at h
  exact h rfl

section
variable {k a c n n2 m t p s d i1 j1 : Nat} {b : Nat × Nat} {g : Nat → Nat → Int32} {l : Nat → Nat → Int64} {i j x y z v w : Int32} {u w1 w2 : Int64}
variable {L G T : Nat} {Lw : Nat → Nat}
set_option maxRecDepth 10000 in
theorem c_X11_doStep (hb : xro b.1) (hR : xRm g b.1 G T Lw) (hp : xpn g) (hbv : b.1 = 7 ∨ b.1 = 11) (hs : g 4 1 = nI m) (hm : m < 40) (hx : ∀ i, i < m → xstp (g 5 (4 * i))) (hk : t < G) (hs6 : s < 6) : xT (k + 5) 135 [.ref 0, .int (nI t), .int (nI s)] (xH b g l) (fun r M' => M' = xH b (xdo g m (nI s) (nI t) (xshw (g (b.1 + 1)) (Lw t / 4) (Lw t % 4) (fun i => if i = m then s else xN (g 5 (4 * i))) m) (xfI (xfb (g (b.1 + 3)) T (nI s) (xshw (g (b.1 + 1)) (Lw t / 4) (Lw t % 4) (fun i => if i = m then s else xN (g 5 (4 * i))) m)))) l ∧ r = some (.int (xshw (g (b.1 + 1)) (Lw t / 4) (Lw t % 4) (fun i => if i = m then s else xN (g 5 (4 * i))) m))) := by
  refine xT.of rfl (Nat.le_of_ble_eq_true rfl) ?_
  dsimp only [lv_args]
  refine xS.s1 rfl rfl ?_
  try dsimp only [Nat.reduceAdd]
  refine xS.gR rfl rfl rfl ⟨by decide, rfl⟩ rfl ?_
  try dsimp only [Nat.reduceAdd]
  -- 4 yX2_size
  refine xS.cv rfl rfl rfl (xde_deeds.1 _) rfl rfl ⟨by decide, rfl, rfl⟩ (c_X2_size xde_deeds) (fun v M1 hv => ?_)
  rw [hv.1, hv.2, hs]
  clear hv M1 v
  try dsimp only [Nat.reduceAdd, Option.toList, List.cons_append, List.nil_append, List.drop]
  refine xS.s1 rfl rfl ?_
  try dsimp only [Nat.reduceAdd]
  refine xS.s1 rfl rfl ?_
  try dsimp only [Nat.reduceAdd]
  refine xS.gR rfl rfl rfl ⟨by decide, rfl⟩ rfl ?_
  try dsimp only [Nat.reduceAdd]
  refine xS.s1 rfl rfl ?_
  try dsimp only [Nat.reduceAdd]
  refine xS.s1 rfl rfl ?_
  try dsimp only [Nat.reduceAdd]
  -- 14 yX2_add
  refine xS.cv rfl rfl rfl (xde_deeds.1 _) rfl rfl ⟨by decide, rfl, rfl⟩ (c_X2_add xde_deeds hs hm) (fun v M1 hv => ?_)
  rw [hv.1, hv.2]
  clear hv M1 v
  change xS _ _ _ _ _ (xH b (xad g m (nI s) (nI t)) l) _
  have hR1 : xRm (xad g m (nI s) (nI t)) b.1 G T Lw := xRm_fr (fun i _ _ => xad_na (by omega) (by omega)) hR
  have hp1 : xpn (xad g m (nI s) (nI t)) := xpn_fr (fun i _ _ => xad_na (by omega) (by omega)) hp
  have hx1 : ∀ i, i < m + 1 → xstp (xad g m (nI s) (nI t) 5 (4 * i)) := fun i hi => xad_x hs6 hx hi
  have e1 : xad g m (nI s) (nI t) (b.1 + 1) = g (b.1 + 1) := xad_na (by omega) (by omega)
  have e3 : xad g m (nI s) (nI t) (b.1 + 3) = g (b.1 + 3) := xad_na (by omega) (by omega)
  try dsimp only [Nat.reduceAdd, Option.toList, List.cons_append, List.nil_append, List.drop]
  refine xS.s1 rfl rfl ?_
  try dsimp only [Nat.reduceAdd]
  refine xS.gR rfl rfl rfl ⟨by decide, rfl⟩ rfl ?_
  try dsimp only [Nat.reduceAdd]
  refine xS.s1 rfl rfl ?_
  try dsimp only [Nat.reduceAdd]
  refine xS.s1 rfl rfl ?_
  try dsimp only [Nat.reduceAdd]
  -- 23 yX11_paneOf
  refine xS.cv rfl rfl rfl rfl rfl rfl ⟨by decide, rfl, rfl⟩ (c_X11_paneOf hb hR1 hk) (fun v M1 hv => ?_)
  rw [hv.1, hv.2]
  clear hv M1 v
  try dsimp only [Nat.reduceAdd, Option.toList, List.cons_append, List.nil_append, List.drop]
  refine xS.s1 rfl rfl ?_
  try dsimp only [Nat.reduceAdd]
  refine xS.gR rfl rfl rfl ⟨by decide, rfl⟩ rfl ?_
  try dsimp only [Nat.reduceAdd]
  refine xS.s1 rfl rfl ?_
  try dsimp only [Nat.reduceAdd]
  -- 31 yX8_shown
  refine xS.cv rfl rfl rfl (hb.1 _) rfl rfl ⟨by decide, rfl, rfl⟩ (c_X8_shown_D hb xde_deeds hp1 (hR.2.2.1 t hk).2 (by omega) xad_41 (by omega) (fun u h => ⟨by have := xsrc_le h; omega, hx1 u (by have := xsrc_le h; omega)⟩)) (fun v M1 hv => ?_)
  rw [hv.1, hv.2, e1, xad_f hs6]
  clear hv M1 v
  try dsimp only [Nat.reduceAdd, Option.toList, List.cons_append, List.nil_append, List.drop]
  refine xS.s1 rfl rfl ?_
  try dsimp only [Nat.reduceAdd]
  refine xS.s1 rfl rfl ?_
  try dsimp only [Nat.reduceAdd]
  refine xS.gR rfl rfl rfl ⟨by decide, rfl⟩ rfl ?_
  try dsimp only [Nat.reduceAdd]
  refine xS.s1 rfl rfl ?_
  try dsimp only [Nat.reduceAdd]
  refine xS.s1 rfl rfl ?_
  try dsimp only [Nat.reduceAdd]
  refine xS.s1 rfl rfl ?_
  try dsimp only [Nat.reduceAdd]
  refine xS.gR rfl rfl rfl ⟨by decide, rfl⟩ rfl ?_
  try dsimp only [Nat.reduceAdd]
  refine xS.s1 rfl rfl ?_
  try dsimp only [Nat.reduceAdd]
  refine xS.s1 rfl rfl ?_
  try dsimp only [Nat.reduceAdd]
  -- 50 yX8_firstBroken
  refine xS.cv rfl rfl rfl (hb.1 _) rfl rfl ⟨by decide, rfl, rfl⟩ (c_X8_firstBroken hb hR1.2.1.1 hR1.2.1.2) (fun v M1 hv => ?_)
  rw [hv.1, hv.2, e3]
  clear hv M1 v
  try dsimp only [Nat.reduceAdd, Option.toList, List.cons_append, List.nil_append, List.drop]
  -- 53 yX2_see
  refine xS.cv rfl rfl rfl (xde_deeds.1 _) rfl rfl ⟨by decide, rfl, rfl⟩ (c_X2_see xde_deeds hm) (fun v M1 hv => ?_)
  rw [hv.1, hv.2]
  clear hv M1 v
  try dsimp only [Nat.reduceAdd, Option.toList, List.cons_append, List.nil_append, List.drop]
  refine xS.s1 rfl rfl ?_
  try dsimp only [Nat.reduceAdd]
  refine xS.ret rfl rfl rfl (fun _ _ => rfl) ?_
  exact ⟨rfl, rfl⟩

set_option maxRecDepth 10000 in
theorem c_X11_digestOf_rows (hz : ∀ r, r < 6 → xsz (g (23 + 2 * r) 1) 40) : xT (k + 3) 139 [.ref 1, .long u] (xH b g l) (fun r M' => M' = xH b g l ∧ r = some (.long (xda (fun r => g (23 + 2 * r) 1) (fun r => g (23 + 2 * r + 1)) u 6))) := by
  refine xT.of rfl (Nat.le_of_ble_eq_true rfl) ?_
  dsimp only [lv_args]
  refine xS.s1 rfl rfl ?_
  try dsimp only [Nat.reduceAdd]
  refine xS.s1 rfl rfl ?_
  try dsimp only [Nat.reduceAdd]
  refine xS.s1 rfl rfl ?_
  try dsimp only [Nat.reduceAdd, xi_0]
  refine xS.s1 rfl rfl ?_
  try dsimp only [Nat.reduceAdd]
  refine xS.pick [0, 1, 2] rfl ?_
  refine xS.loop (σ := Unit) (6) (fun j S => [(5, .int (nI j)), (3, .long (xda (fun r => g (23 + 2 * r) 1) (fun r => g (23 + 2 * r + 1)) u j)), (0, .ref 1)]) (fun _ _ => xH b g l) (fun _ _ => True) (()) (rfl) (rfl) (trivial) ?_
  intro j S hj hI ih
  try dsimp only
  refine xS.s1 rfl rfl ?_
  try dsimp only [Nat.reduceAdd]
  refine xS.s1 rfl rfl ?_
  try dsimp only [Nat.reduceAdd]
  refine xS.alo rfl rfl (by decide) rfl ?_
  try dsimp only [Nat.reduceAdd]
  refine xS.br (c := .ge) (off := 62) (l := 3) rfl rfl (fun h9 => ?_) (fun h9 => ?_)
  · have g9 := xt_ge h9
    refine xS.s1 rfl rfl ?_
    try dsimp only [Nat.reduceAdd]
    refine xS.ret rfl rfl rfl (fun _ _ => rfl) ?_
    have e := xnle (b := 6) g9 (by omega) (by omega)
    rw [show 6 = j by omega]
    exact ⟨rfl, rfl⟩
  · have g9 := xf_ge h9
    have hlt := xnlt (b := 6) g9 (by omega) (by omega)
    have hln := xsz_le (hz j hlt) (by omega)
    refine xS.s1 rfl rfl ?_
    try dsimp only [Nat.reduceAdd]
    refine xS.s1 rfl rfl ?_
    try dsimp only [Nat.reduceAdd]
    refine xS.s1 rfl rfl ?_
    try dsimp only [Nat.reduceAdd]
    refine xS.s1 rfl rfl ?_
    try dsimp only [Nat.reduceAdd]
    refine xS.s1 rfl rfl ?_
    try dsimp only [Nat.reduceAdd]
    refine xS.aR rfl rfl (by decide) (by omega) (xsh1_get (by omega)) ?_
    try dsimp only [Nat.reduceAdd]
    -- 21 yX0_size
    refine xS.cv rfl rfl rfl ((xce_row (r := j) (by omega)).1 _) rfl rfl ⟨by decide, rfl, rfl⟩ (c_X0_size (xce_row (r := j) (by omega))) (fun v M1 hv => ?_)
    rw [hv.1, hv.2]
    clear hv M1 v
    try dsimp only [Nat.reduceAdd, Option.toList, List.cons_append, List.nil_append, List.drop]
    refine xS.s1 rfl rfl ?_
    try dsimp only [Nat.reduceAdd]
    refine xS.s1 rfl rfl ?_
    try dsimp only [Nat.reduceAdd]
    refine xS.s1 rfl rfl ?_
    try dsimp only [Nat.reduceAdd]
    refine xS.s1 rfl rfl ?_
    try dsimp only [Nat.reduceAdd, xi_0]
    refine xS.s1 rfl rfl ?_
    try dsimp only [Nat.reduceAdd]
    refine xS.pick [0, 1, 2, 3] rfl ?_
    refine xS.loop (σ := Unit) (xN (g (23 + 2 * j) 1)) (fun i _ => [(6, .int (nI i)), (3, .long (xdl (g (23 + 2 * j + 1)) (xdg (xda (fun r => g (23 + 2 * r) 1) (fun r => g (23 + 2 * r + 1)) u j) (g (23 + 2 * j) 1)) i)), (5, .int (nI j)), (0, .ref 1)]) (fun _ _ => xH b g l) (fun _ _ => True) (()) (rfl) (rfl) (trivial) ?_
    intro i S2 hi hI2 ih2
    try dsimp only
    refine xS.s1 rfl rfl ?_
    try dsimp only [Nat.reduceAdd]
    refine xS.s1 rfl rfl ?_
    try dsimp only [Nat.reduceAdd]
    refine xS.s1 rfl rfl ?_
    try dsimp only [Nat.reduceAdd]
    refine xS.aR rfl rfl (by decide) (by omega) (xsh1_get (by omega)) ?_
    try dsimp only [Nat.reduceAdd]
    -- 36 yX0_size
    refine xS.cv rfl rfl rfl ((xce_row (r := j) (by omega)).1 _) rfl rfl ⟨by decide, rfl, rfl⟩ (c_X0_size (xce_row (r := j) (by omega))) (fun v M1 hv => ?_)
    rw [hv.1, hv.2]
    clear hv M1 v
    try dsimp only [Nat.reduceAdd, Option.toList, List.cons_append, List.nil_append, List.drop]
    refine xS.br (c := .ge) (off := 26) (l := 3) rfl rfl (fun h39 => ?_) (fun h39 => ?_)
    · have g39 := xt_ge h39
      refine xS.s1 rfl rfl ?_
      try dsimp only [Nat.reduceAdd, xi_1]
      rw [nI_1]
      refine xS.s1 rfl rfl ?_
      try dsimp only [Nat.reduceAdd]
      refine xS.pick [0, 2, 3] rfl ?_
      have ei : i = xN (g (23 + 2 * j) 1) := by
        have := (not_congr (xsz_lt (hz j hlt) (by omega) (by omega : i < 2 ^ 31))).mp (Int32.not_lt.mpr g39)
        omega
      subst ei
      exact ih () (by omega) trivial
    · have g39 := xf_ge h39
      have hlt2 := (xsz_lt (hz j hlt) (by omega) (by omega)).mp g39
      have hN := xsz_N (hz j hlt) (by omega) hlt2
      refine xS.s1 rfl rfl ?_
      try dsimp only [Nat.reduceAdd]
      refine xS.s1 rfl rfl ?_
      try dsimp only [Nat.reduceAdd]
      refine xS.s1 rfl rfl ?_
      try dsimp only [Nat.reduceAdd]
      refine xS.s1 rfl rfl ?_
      try dsimp only [Nat.reduceAdd]
      refine xS.s1 rfl rfl ?_
      try dsimp only [Nat.reduceAdd]
      refine xS.aR rfl rfl (by decide) (by omega) (xsh1_get (by omega)) ?_
      try dsimp only [Nat.reduceAdd]
      refine xS.s1 rfl rfl ?_
      try dsimp only [Nat.reduceAdd]
      -- 53 yX0_get
      refine xS.cv rfl rfl rfl ((xce_row (r := j) (by omega)).1 _) rfl rfl ⟨by decide, rfl, rfl⟩ (c_X0_get (xce_row hlt) hN.1 hN.2 hlt2) (fun v M1 hv => ?_)
      rw [hv.1, hv.2]
      clear hv M1 v
      try dsimp only [Nat.reduceAdd, Option.toList, List.cons_append, List.nil_append, List.drop]
      refine xS.s1 rfl rfl ?_
      try dsimp only [Nat.reduceAdd]
      refine xS.s1 rfl rfl ?_
      try dsimp only [Nat.reduceAdd]
      refine xS.s1 rfl rfl ?_
      try dsimp only [Nat.reduceAdd]
      refine xS.s1 rfl rfl ?_
      try dsimp only [Nat.reduceAdd, xi_1]
      rw [nI_1]
      refine xS.s1 rfl rfl ?_
      try dsimp only [Nat.reduceAdd]
      refine xS.pick [0, 1, 2, 3] rfl ?_
      exact ih2 () (by omega) trivial

set_option maxRecDepth 10000 in
theorem c_X11_digestOf_texts (hz : ∀ r, r < 4 → xsz (g (35 + 2 * r) 1) 60) : xT (k + 3) 139 [.ref 2, .long u] (xH b g l) (fun r M' => M' = xH b g l ∧ r = some (.long (xda (fun r => g (35 + 2 * r) 1) (fun r => g (35 + 2 * r + 1)) u 4))) := by
  refine xT.of rfl (Nat.le_of_ble_eq_true rfl) ?_
  dsimp only [lv_args]
  refine xS.s1 rfl rfl ?_
  try dsimp only [Nat.reduceAdd]
  refine xS.s1 rfl rfl ?_
  try dsimp only [Nat.reduceAdd]
  refine xS.s1 rfl rfl ?_
  try dsimp only [Nat.reduceAdd, xi_0]
  refine xS.s1 rfl rfl ?_
  try dsimp only [Nat.reduceAdd]
  refine xS.pick [0, 1, 2] rfl ?_
  refine xS.loop (σ := Unit) (4) (fun j S => [(5, .int (nI j)), (3, .long (xda (fun r => g (35 + 2 * r) 1) (fun r => g (35 + 2 * r + 1)) u j)), (0, .ref 2)]) (fun _ _ => xH b g l) (fun _ _ => True) (()) (rfl) (rfl) (trivial) ?_
  intro j S hj hI ih
  try dsimp only
  refine xS.s1 rfl rfl ?_
  try dsimp only [Nat.reduceAdd]
  refine xS.s1 rfl rfl ?_
  try dsimp only [Nat.reduceAdd]
  refine xS.alo rfl rfl (by decide) rfl ?_
  try dsimp only [Nat.reduceAdd]
  refine xS.br (c := .ge) (off := 62) (l := 3) rfl rfl (fun h9 => ?_) (fun h9 => ?_)
  · have g9 := xt_ge h9
    refine xS.s1 rfl rfl ?_
    try dsimp only [Nat.reduceAdd]
    refine xS.ret rfl rfl rfl (fun _ _ => rfl) ?_
    have e := xnle (b := 4) g9 (by omega) (by omega)
    rw [show 4 = j by omega]
    exact ⟨rfl, rfl⟩
  · have g9 := xf_ge h9
    have hlt := xnlt (b := 4) g9 (by omega) (by omega)
    have hln := xsz_le (hz j hlt) (by omega)
    refine xS.s1 rfl rfl ?_
    try dsimp only [Nat.reduceAdd]
    refine xS.s1 rfl rfl ?_
    try dsimp only [Nat.reduceAdd]
    refine xS.s1 rfl rfl ?_
    try dsimp only [Nat.reduceAdd]
    refine xS.s1 rfl rfl ?_
    try dsimp only [Nat.reduceAdd]
    refine xS.s1 rfl rfl ?_
    try dsimp only [Nat.reduceAdd]
    refine xS.aR rfl rfl (by decide) (by omega) (xsh2_get (by omega)) ?_
    try dsimp only [Nat.reduceAdd]
    -- 21 yX0_size
    refine xS.cv rfl rfl rfl ((xce_text (r := j) (by omega)).1 _) rfl rfl ⟨by decide, rfl, rfl⟩ (c_X0_size (xce_text (r := j) (by omega))) (fun v M1 hv => ?_)
    rw [hv.1, hv.2]
    clear hv M1 v
    try dsimp only [Nat.reduceAdd, Option.toList, List.cons_append, List.nil_append, List.drop]
    refine xS.s1 rfl rfl ?_
    try dsimp only [Nat.reduceAdd]
    refine xS.s1 rfl rfl ?_
    try dsimp only [Nat.reduceAdd]
    refine xS.s1 rfl rfl ?_
    try dsimp only [Nat.reduceAdd]
    refine xS.s1 rfl rfl ?_
    try dsimp only [Nat.reduceAdd, xi_0]
    refine xS.s1 rfl rfl ?_
    try dsimp only [Nat.reduceAdd]
    refine xS.pick [0, 1, 2, 3] rfl ?_
    refine xS.loop (σ := Unit) (xN (g (35 + 2 * j) 1)) (fun i _ => [(6, .int (nI i)), (3, .long (xdl (g (35 + 2 * j + 1)) (xdg (xda (fun r => g (35 + 2 * r) 1) (fun r => g (35 + 2 * r + 1)) u j) (g (35 + 2 * j) 1)) i)), (5, .int (nI j)), (0, .ref 2)]) (fun _ _ => xH b g l) (fun _ _ => True) (()) (rfl) (rfl) (trivial) ?_
    intro i S2 hi hI2 ih2
    try dsimp only
    refine xS.s1 rfl rfl ?_
    try dsimp only [Nat.reduceAdd]
    refine xS.s1 rfl rfl ?_
    try dsimp only [Nat.reduceAdd]
    refine xS.s1 rfl rfl ?_
    try dsimp only [Nat.reduceAdd]
    refine xS.aR rfl rfl (by decide) (by omega) (xsh2_get (by omega)) ?_
    try dsimp only [Nat.reduceAdd]
    -- 36 yX0_size
    refine xS.cv rfl rfl rfl ((xce_text (r := j) (by omega)).1 _) rfl rfl ⟨by decide, rfl, rfl⟩ (c_X0_size (xce_text (r := j) (by omega))) (fun v M1 hv => ?_)
    rw [hv.1, hv.2]
    clear hv M1 v
    try dsimp only [Nat.reduceAdd, Option.toList, List.cons_append, List.nil_append, List.drop]
    refine xS.br (c := .ge) (off := 26) (l := 3) rfl rfl (fun h39 => ?_) (fun h39 => ?_)
    · have g39 := xt_ge h39
      refine xS.s1 rfl rfl ?_
      try dsimp only [Nat.reduceAdd, xi_1]
      rw [nI_1]
      refine xS.s1 rfl rfl ?_
      try dsimp only [Nat.reduceAdd]
      refine xS.pick [0, 2, 3] rfl ?_
      have ei : i = xN (g (35 + 2 * j) 1) := by
        have := (not_congr (xsz_lt (hz j hlt) (by omega) (by omega : i < 2 ^ 31))).mp (Int32.not_lt.mpr g39)
        omega
      subst ei
      exact ih () (by omega) trivial
    · have g39 := xf_ge h39
      have hlt2 := (xsz_lt (hz j hlt) (by omega) (by omega)).mp g39
      have hN := xsz_N (hz j hlt) (by omega) hlt2
      refine xS.s1 rfl rfl ?_
      try dsimp only [Nat.reduceAdd]
      refine xS.s1 rfl rfl ?_
      try dsimp only [Nat.reduceAdd]
      refine xS.s1 rfl rfl ?_
      try dsimp only [Nat.reduceAdd]
      refine xS.s1 rfl rfl ?_
      try dsimp only [Nat.reduceAdd]
      refine xS.s1 rfl rfl ?_
      try dsimp only [Nat.reduceAdd]
      refine xS.aR rfl rfl (by decide) (by omega) (xsh2_get (by omega)) ?_
      try dsimp only [Nat.reduceAdd]
      refine xS.s1 rfl rfl ?_
      try dsimp only [Nat.reduceAdd]
      -- 53 yX0_get
      refine xS.cv rfl rfl rfl ((xce_text (r := j) (by omega)).1 _) rfl rfl ⟨by decide, rfl, rfl⟩ (c_X0_get (xce_text hlt) hN.1 hN.2 hlt2) (fun v M1 hv => ?_)
      rw [hv.1, hv.2]
      clear hv M1 v
      try dsimp only [Nat.reduceAdd, Option.toList, List.cons_append, List.nil_append, List.drop]
      refine xS.s1 rfl rfl ?_
      try dsimp only [Nat.reduceAdd]
      refine xS.s1 rfl rfl ?_
      try dsimp only [Nat.reduceAdd]
      refine xS.s1 rfl rfl ?_
      try dsimp only [Nat.reduceAdd]
      refine xS.s1 rfl rfl ?_
      try dsimp only [Nat.reduceAdd, xi_1]
      rw [nI_1]
      refine xS.s1 rfl rfl ?_
      try dsimp only [Nat.reduceAdd]
      refine xS.pick [0, 1, 2, 3] rfl ?_
      exact ih2 () (by omega) trivial

def xlst (x : Int32) : Nat := (xfst (fun s => decide ((x >>> (nI s &&& 31)) &&& 1 = 1)) 6).getD 0

set_option maxRecDepth 10000 in
theorem c_X11_leastOf  : xT (k + 1) 141 [.int x] (xH b g l) (fun r M' => M' = xH b g l ∧ r = some (.int (nI (xlst x)))) := by
  refine xT.of rfl (Nat.le_of_ble_eq_true rfl) ?_
  dsimp only [lv_args]
  refine xS.s1 rfl rfl ?_
  try dsimp only [Nat.reduceAdd, xi_0]
  refine xS.s1 rfl rfl ?_
  try dsimp only [Nat.reduceAdd]
  refine xS.pick [0, 1] rfl ?_
  refine xS.loop (σ := Unit) (6) (fun j S => [(1, .int (nI j)), (0, .int x)]) (fun _ _ => xH b g l) (fun j _ => xfst (fun s => decide ((x >>> (nI s &&& 31)) &&& 1 = 1)) j = none) (()) (rfl) (rfl) (rfl) ?_
  intro j S hj hI ih
  try dsimp only
  refine xS.s1 rfl rfl ?_
  try dsimp only [Nat.reduceAdd]
  refine xS.s1 rfl rfl ?_
  try dsimp only [Nat.reduceAdd, xj_6]
  refine xS.br (c := .ge) (off := 20) (l := 3) rfl rfl (fun h5 => ?_) (fun h5 => ?_)
  · have g5 := xt_ge h5
    refine xS.s1 rfl rfl ?_
    try dsimp only [Nat.reduceAdd, xi_0]
    refine xS.ret rfl rfl rfl (fun _ _ => rfl) ?_
    unfold xlst
    have e := xnle (b := 6) g5 (by omega) (by omega)
    rw [show 6 = j by omega, hI]
    exact ⟨rfl, rfl⟩
  · have g5 := xf_ge h5
    have hlt := xnlt (b := 6) g5 (by omega) (by omega)
    refine xS.s1 rfl rfl ?_
    try dsimp only [Nat.reduceAdd]
    refine xS.s1 rfl rfl ?_
    try dsimp only [Nat.reduceAdd]
    refine xS.s1 rfl rfl ?_
    try dsimp only [Nat.reduceAdd]
    refine xS.s1 rfl rfl ?_
    try dsimp only [Nat.reduceAdd, xi_1]
    refine xS.s1 rfl rfl ?_
    try dsimp only [Nat.reduceAdd]
    refine xS.s1 rfl rfl ?_
    try dsimp only [Nat.reduceAdd, xi_1]
    refine xS.br (c := .ne) (off := 5) (l := 3) rfl rfl (fun h14 => ?_) (fun h14 => ?_)
    · have g14 := xt_ne h14
      refine xS.s1 rfl rfl ?_
      try dsimp only [Nat.reduceAdd, xi_1]
      rw [nI_1]
      refine xS.s1 rfl rfl ?_
      try dsimp only [Nat.reduceAdd]
      refine xS.pick [0, 1] rfl ?_
      exact ih () (by omega) (xfst_n hI (by simp [g14]))
    · have g14 := xf_ne h14
      refine xS.s1 rfl rfl ?_
      try dsimp only [Nat.reduceAdd]
      refine xS.ret rfl rfl rfl (fun _ _ => rfl) ?_
      unfold xlst
      rw [xfst_at hI (by simp [g14]) hlt]
      exact ⟨rfl, rfl⟩

set_option maxRecDepth 10000 in
theorem c_X11_firstNotShown (hb : xro b.1) (hR : xRm g b.1 G T Lw) (hp : xpn g) (hL : L < 24) (hF : xce c n) (hs : g c 1 = nI m) (hm : m ≤ n) (hx : ∀ i, i < m → xstp (g (c + 1) i)) (hD : xce d n2) (hs2 : g d 1 = nI m) (hm2 : m ≤ n2) : xT (k + 5) 142 [.ref 0, .ref (43 + L), .ref c, .ref d] (xH b g l) (fun r M' => M' = xH b g l ∧ r = some (.int (xfI (xfst (fun i => !decide (xshw (g (b.1 + 1)) (L / 4) (L % 4) (fun i => xN (g (c + 1) i)) i = g (d + 1) i)) m)))) := by
  refine xT.of rfl (Nat.le_of_ble_eq_true rfl) ?_
  dsimp only [lv_args]
  refine xS.s1 rfl rfl ?_
  try dsimp only [Nat.reduceAdd, xi_0]
  refine xS.s1 rfl rfl ?_
  try dsimp only [Nat.reduceAdd]
  refine xS.pick [0, 1, 2, 3, 4] rfl ?_
  refine xS.loop (σ := Unit) (m) (fun j S => [(4, .int (nI j)), (0, .ref 0), (1, .ref (43 + L)), (2, .ref c), (3, .ref d)]) (fun _ _ => xH b g l) (fun j _ => xfst (fun i => !decide (xshw (g (b.1 + 1)) (L / 4) (L % 4) (fun i => xN (g (c + 1) i)) i = g (d + 1) i)) j = none) (()) (rfl) (rfl) (rfl) ?_
  intro j S hj hI ih
  try dsimp only
  have hn := xn31 hF.2
  refine xS.s1 rfl rfl ?_
  try dsimp only [Nat.reduceAdd]
  refine xS.s1 rfl rfl ?_
  try dsimp only [Nat.reduceAdd]
  -- 6 yX0_size
  refine xS.cv rfl rfl rfl (hF.1 _) rfl rfl ⟨by decide, rfl, rfl⟩ (c_X0_size hF) (fun v M1 hv => ?_)
  rw [hv.1, hv.2]
  clear hv M1 v
  try dsimp only [Nat.reduceAdd, Option.toList, List.cons_append, List.nil_append, List.drop]
  refine xS.br (c := .ge) (off := 32) (l := 3) rfl rfl (fun h9 => ?_) (fun h9 => ?_)
  · have g9 := xt_ge h9
    refine xS.s1 rfl rfl ?_
    try dsimp only [Nat.reduceAdd, xj_m9]
    refine xS.ret rfl rfl rfl (fun _ _ => rfl) ?_
    rw [hs] at g9
    have e := xnle g9 (by omega) (by omega)
    rw [show m = j by omega, hI]
    exact ⟨rfl, rfl⟩
  · have g9 := xf_ge h9
    rw [hs] at g9
    have hlt := xnlt g9 (by omega) (by omega)
    refine xS.s1 rfl rfl ?_
    try dsimp only [Nat.reduceAdd]
    refine xS.gR rfl rfl rfl ⟨by decide, rfl⟩ rfl ?_
    try dsimp only [Nat.reduceAdd]
    refine xS.s1 rfl rfl ?_
    try dsimp only [Nat.reduceAdd]
    refine xS.s1 rfl rfl ?_
    try dsimp only [Nat.reduceAdd]
    refine xS.s1 rfl rfl ?_
    try dsimp only [Nat.reduceAdd]
    -- 20 yX8_shown
    refine xS.cv rfl rfl rfl (hb.1 _) rfl rfl ⟨by decide, rfl, rfl⟩ (c_X8_shown_C hb hF hp hL (by have := hF.2.2; omega) hs hm (fun s h => ⟨Nat.lt_of_le_of_lt (xsrc_le h) hlt, hx s (Nat.lt_of_le_of_lt (xsrc_le h) hlt)⟩)) (fun v M1 hv => ?_)
    rw [hv.1, hv.2]
    clear hv M1 v
    try dsimp only [Nat.reduceAdd, Option.toList, List.cons_append, List.nil_append, List.drop]
    refine xS.s1 rfl rfl ?_
    try dsimp only [Nat.reduceAdd]
    refine xS.s1 rfl rfl ?_
    try dsimp only [Nat.reduceAdd]
    -- 26 yX0_get
    refine xS.cv rfl rfl rfl (hD.1 _) rfl rfl ⟨by decide, rfl, rfl⟩ (c_X0_get hD hs2 hm2 hlt) (fun v M1 hv => ?_)
    rw [hv.1, hv.2]
    clear hv M1 v
    try dsimp only [Nat.reduceAdd, Option.toList, List.cons_append, List.nil_append, List.drop]
    refine xS.br (c := .eq) (off := 6) (l := 3) rfl rfl (fun h29 => ?_) (fun h29 => ?_)
    · have g29 := xt_eq h29
      refine xS.s1 rfl rfl ?_
      try dsimp only [Nat.reduceAdd, xi_1]
      rw [nI_1]
      refine xS.s1 rfl rfl ?_
      try dsimp only [Nat.reduceAdd]
      refine xS.pick [0, 1, 2, 3, 4] rfl ?_
      exact ih () (by omega) (xfst_n hI (by simp [g29]))
    · have g29 := xf_eq h29
      refine xS.s1 rfl rfl ?_
      try dsimp only [Nat.reduceAdd]
      refine xS.ret rfl rfl rfl (fun _ _ => rfl) ?_
      rw [xfst_at hI (by simp [g29]) hlt]
      exact ⟨rfl, rfl⟩

set_option maxRecDepth 10000 in
theorem c_X11_lawsOf (hb : xro b.1) (hR : xRm g b.1 G T Lw) (hp : xpn g) (hF : xce c n) (hs : g c 1 = nI m) (hm : m ≤ n) (hx : ∀ i, i < m → xstp (g (c + 1) i)) (hD : xce d n2) (hs2 : g d 1 = nI m) (hm2 : m ≤ n2) : xT (k + 6) 143 [.ref 0, .ref c, .ref d] (xH b g l) (fun r M' => M' = xH b g l ∧ r = some (.int (xbits (fun j => decide (xfst (fun i => !decide (xshw (g (b.1 + 1)) (j / 4) (j % 4) (fun i => xN (g (c + 1) i)) i = g (d + 1) i)) m = none)) 24))) := by
  refine xT.of rfl (Nat.le_of_ble_eq_true rfl) ?_
  dsimp only [lv_args]
  refine xS.s1 rfl rfl ?_
  try dsimp only [Nat.reduceAdd, xi_0]
  refine xS.s1 rfl rfl ?_
  try dsimp only [Nat.reduceAdd]
  refine xS.s1 rfl rfl ?_
  try dsimp only [Nat.reduceAdd, xi_0]
  refine xS.s1 rfl rfl ?_
  try dsimp only [Nat.reduceAdd]
  refine xS.pick [0, 1, 2, 3, 4] rfl ?_
  refine xS.loop (σ := Unit) (24) (fun j S => [(4, .int (nI j)), (3, .int (xbits (fun j => decide (xfst (fun i => !decide (xshw (g (b.1 + 1)) (j / 4) (j % 4) (fun i => xN (g (c + 1) i)) i = g (d + 1) i)) m = none)) j)), (0, .ref 0), (1, .ref c), (2, .ref d)]) (fun _ _ => xH b g l) (fun _ _ => True) (()) (rfl) (rfl) (trivial) ?_
  intro j S hj hI ih
  try dsimp only
  have hn := xn31 hF.2
  refine xS.s1 rfl rfl ?_
  try dsimp only [Nat.reduceAdd]
  refine xS.s1 rfl rfl ?_
  try dsimp only [Nat.reduceAdd, xj_24]
  refine xS.br (c := .ge) (off := 34) (l := 3) rfl rfl (fun h9 => ?_) (fun h9 => ?_)
  · have g9 := xt_ge h9
    refine xS.s1 rfl rfl ?_
    try dsimp only [Nat.reduceAdd]
    refine xS.ret rfl rfl rfl (fun _ _ => rfl) ?_
    have e := xnle (b := 24) g9 (by omega) (by omega)
    rw [show 24 = j by omega]
    exact ⟨rfl, rfl⟩
  · have g9 := xf_ge h9
    have hlt := xnlt (b := 24) g9 (by omega) (by omega)
    refine xS.s1 rfl rfl ?_
    try dsimp only [Nat.reduceAdd]
    refine xS.s1 rfl rfl ?_
    try dsimp only [Nat.reduceAdd]
    refine xS.gR rfl rfl rfl ⟨by decide, rfl⟩ rfl ?_
    try dsimp only [Nat.reduceAdd]
    refine xS.s1 rfl rfl ?_
    try dsimp only [Nat.reduceAdd]
    refine xS.aR rfl rfl (by decide) (by omega) (xsh3_get (by omega)) ?_
    try dsimp only [Nat.reduceAdd]
    refine xS.s1 rfl rfl ?_
    try dsimp only [Nat.reduceAdd]
    refine xS.s1 rfl rfl ?_
    try dsimp only [Nat.reduceAdd]
    -- 22 yX11_firstNotShown
    refine xS.cv rfl rfl rfl rfl rfl rfl ⟨by decide, rfl, rfl⟩ (c_X11_firstNotShown hb hR hp hlt hF hs hm hx hD hs2 hm2) (fun v M1 hv => ?_)
    rw [hv.1, hv.2]
    clear hv M1 v
    try dsimp only [Nat.reduceAdd, Option.toList, List.cons_append, List.nil_append, List.drop]
    refine xS.s1 rfl rfl ?_
    try dsimp only [Nat.reduceAdd, xj_m9]
    refine xS.br (c := .ne) (off := 10) (l := 3) rfl rfl (fun h27 => ?_) (fun h27 => ?_)
    · have g27 := xt_ne h27
      refine xS.s1 rfl rfl ?_
      try dsimp only [Nat.reduceAdd, xi_1]
      rw [nI_1]
      refine xS.s1 rfl rfl ?_
      try dsimp only [Nat.reduceAdd]
      refine xS.pick [0, 1, 2, 3, 4] rfl ?_
      rw [xfI_none (fun d h => by have := (xfst_lt h).1; omega)] at g27
      have ih2 := ih () (by omega) trivial
      first | (rw [show xbits (fun j => decide (xfst (fun i => !decide (xshw (g (b.1 + 1)) (j / 4) (j % 4) (fun i => xN (g (c + 1) i)) i = g (d + 1) i)) m = none)) (j + 1) = xbits (fun j => decide (xfst (fun i => !decide (xshw (g (b.1 + 1)) (j / 4) (j % 4) (fun i => xN (g (c + 1) i)) i = g (d + 1) i)) m = none)) j from by rw [xbits_s, decide_eq_false g27]; rfl] at ih2; exact ih2) | (rw [show xbits (fun j => decide (xfst (fun i => !decide (xshw (g (b.1 + 1)) (j / 4) (j % 4) (fun i => xN (g (c + 1) i)) i = g (d + 1) i)) m = none)) (j + 1) = xbits (fun j => decide (xfst (fun i => !decide (xshw (g (b.1 + 1)) (j / 4) (j % 4) (fun i => xN (g (c + 1) i)) i = g (d + 1) i)) m = none)) j ||| (1 <<< (nI j &&& 31)) from by rw [xbits_s, decide_eq_true g27]; rfl] at ih2; exact ih2)
    · have g27 := xf_ne h27
      refine xS.s1 rfl rfl ?_
      try dsimp only [Nat.reduceAdd]
      refine xS.s1 rfl rfl ?_
      try dsimp only [Nat.reduceAdd, xi_1]
      refine xS.s1 rfl rfl ?_
      try dsimp only [Nat.reduceAdd]
      refine xS.s1 rfl rfl ?_
      try dsimp only [Nat.reduceAdd]
      refine xS.s1 rfl rfl ?_
      try dsimp only [Nat.reduceAdd]
      refine xS.s1 rfl rfl ?_
      try dsimp only [Nat.reduceAdd]
      refine xS.s1 rfl rfl ?_
      try dsimp only [Nat.reduceAdd, xi_1]
      rw [nI_1]
      refine xS.s1 rfl rfl ?_
      try dsimp only [Nat.reduceAdd]
      refine xS.pick [0, 1, 2, 3, 4] rfl ?_
      rw [xfI_none (fun d h => by have := (xfst_lt h).1; omega)] at g27
      have ih2 := ih () (by omega) trivial
      first | (rw [show xbits (fun j => decide (xfst (fun i => !decide (xshw (g (b.1 + 1)) (j / 4) (j % 4) (fun i => xN (g (c + 1) i)) i = g (d + 1) i)) m = none)) (j + 1) = xbits (fun j => decide (xfst (fun i => !decide (xshw (g (b.1 + 1)) (j / 4) (j % 4) (fun i => xN (g (c + 1) i)) i = g (d + 1) i)) m = none)) j from by rw [xbits_s, decide_eq_false g27]; rfl] at ih2; exact ih2) | (rw [show xbits (fun j => decide (xfst (fun i => !decide (xshw (g (b.1 + 1)) (j / 4) (j % 4) (fun i => xN (g (c + 1) i)) i = g (d + 1) i)) m = none)) (j + 1) = xbits (fun j => decide (xfst (fun i => !decide (xshw (g (b.1 + 1)) (j / 4) (j % 4) (fun i => xN (g (c + 1) i)) i = g (d + 1) i)) m = none)) j ||| (1 <<< (nI j &&& 31)) from by rw [xbits_s, decide_eq_true g27]; rfl] at ih2; exact ih2)

set_option maxRecDepth 10000 in
theorem c_X11_breakingOfTwelve (hb : xro b.1) (hR : xRm g b.1 G T Lw) (hp : xpn g) (hL : L < 24) (hF : xce c n) (hs : g c 1 = nI m) (hm : m ≤ n) (hx : ∀ i, i < m → xstp (g (c + 1) i)) (hlt : t < m) : xT (k + 5) 147 [.ref 0, .ref (43 + L), .ref c, .int (nI t), .int x] (xH b g l) (fun r M' => M' = xH b g l ∧ r = some (.int ((if xfb (g (b.1 + 3)) T (g (c + 1) t) 0 = none then 0 else x) + (if xfb (g (b.1 + 3)) T (g (c + 1) t) (xshw (g (b.1 + 1)) (L / 4) (L % 4) (fun i => xN (g (c + 1) i)) t) = none then 0 else 12 - x)))) := by
  refine xT.of rfl (Nat.le_of_ble_eq_true rfl) ?_
  dsimp only [lv_args]
  refine xS.s1 rfl rfl ?_
  try dsimp only [Nat.reduceAdd]
  refine xS.s1 rfl rfl ?_
  try dsimp only [Nat.reduceAdd]
  -- 2 yX0_get
  refine xS.cv rfl rfl rfl (hF.1 _) rfl rfl ⟨by decide, rfl, rfl⟩ (c_X0_get hF hs hm hlt) (fun v M1 hv => ?_)
  rw [hv.1, hv.2]
  clear hv M1 v
  try dsimp only [Nat.reduceAdd, Option.toList, List.cons_append, List.nil_append, List.drop]
  refine xS.s1 rfl rfl ?_
  try dsimp only [Nat.reduceAdd]
  refine xS.s1 rfl rfl ?_
  try dsimp only [Nat.reduceAdd]
  refine xS.gR rfl rfl rfl ⟨by decide, rfl⟩ rfl ?_
  try dsimp only [Nat.reduceAdd]
  refine xS.s1 rfl rfl ?_
  try dsimp only [Nat.reduceAdd]
  refine xS.s1 rfl rfl ?_
  try dsimp only [Nat.reduceAdd, xi_0]
  -- 14 yX8_isBroken
  refine xS.cv rfl rfl rfl (hb.1 _) rfl rfl ⟨by decide, rfl, rfl⟩ (c_X8_isBroken hb hR.2.1.1 hR.2.1.2) (fun v M1 hv => ?_)
  rw [hv.1, hv.2]
  clear hv M1 v
  try dsimp only [Nat.reduceAdd, Option.toList, List.cons_append, List.nil_append, List.drop]
  refine xS.br0 (c := .eq) (off := 8) (l := 3) rfl rfl (fun h17 => ?_) (fun h17 => ?_)
  · have g17 := xt_eq h17
    have e17 := xif0n g17
    refine xS.s1 rfl rfl ?_
    try dsimp only [Nat.reduceAdd, xi_0]
    refine xS.s1 rfl rfl ?_
    try dsimp only [Nat.reduceAdd]
    refine xS.s1 rfl rfl ?_
    try dsimp only [Nat.reduceAdd]
    refine xS.gR rfl rfl rfl ⟨by decide, rfl⟩ rfl ?_
    try dsimp only [Nat.reduceAdd]
    refine xS.s1 rfl rfl ?_
    try dsimp only [Nat.reduceAdd]
    refine xS.s1 rfl rfl ?_
    try dsimp only [Nat.reduceAdd]
    refine xS.gR rfl rfl rfl ⟨by decide, rfl⟩ rfl ?_
    try dsimp only [Nat.reduceAdd]
    refine xS.s1 rfl rfl ?_
    try dsimp only [Nat.reduceAdd]
    refine xS.s1 rfl rfl ?_
    try dsimp only [Nat.reduceAdd]
    refine xS.s1 rfl rfl ?_
    try dsimp only [Nat.reduceAdd]
    -- 41 yX8_shown
    refine xS.cv rfl rfl rfl (hb.1 _) rfl rfl ⟨by decide, rfl, rfl⟩ (c_X8_shown_C hb hF hp hL (by have := hF.2.2; omega) hs hm (fun s h => ⟨Nat.lt_of_le_of_lt (xsrc_le h) hlt, hx s (Nat.lt_of_le_of_lt (xsrc_le h) hlt)⟩)) (fun v M1 hv => ?_)
    rw [hv.1, hv.2]
    clear hv M1 v
    try dsimp only [Nat.reduceAdd, Option.toList, List.cons_append, List.nil_append, List.drop]
    -- 44 yX8_isBroken
    refine xS.cv rfl rfl rfl (hb.1 _) rfl rfl ⟨by decide, rfl, rfl⟩ (c_X8_isBroken hb hR.2.1.1 hR.2.1.2) (fun v M1 hv => ?_)
    rw [hv.1, hv.2]
    clear hv M1 v
    try dsimp only [Nat.reduceAdd, Option.toList, List.cons_append, List.nil_append, List.drop]
    refine xS.br0 (c := .eq) (off := 11) (l := 3) rfl rfl (fun h47 => ?_) (fun h47 => ?_)
    · have g47 := xt_eq h47
      have e47 := xif0n g47
      refine xS.s1 rfl rfl ?_
      try dsimp only [Nat.reduceAdd, xi_0]
      refine xS.s1 rfl rfl ?_
      try dsimp only [Nat.reduceAdd]
      refine xS.s1 rfl rfl ?_
      try dsimp only [Nat.reduceAdd]
      refine xS.s1 rfl rfl ?_
      try dsimp only [Nat.reduceAdd]
      refine xS.s1 rfl rfl ?_
      try dsimp only [Nat.reduceAdd]
      refine xS.ret rfl rfl rfl (fun _ _ => rfl) ?_
      refine ⟨rfl, ?_⟩
      first | (rw [if_pos e17, if_pos e47]; done) | (rw [if_pos e17, if_neg e47]; done) | (rw [if_neg e17, if_pos e47]; done) | (rw [if_neg e17, if_neg e47]; done)
    · have g47 := xf_eq h47
      have e47 := xif1n g47
      refine xS.s1 rfl rfl ?_
      try dsimp only [Nat.reduceAdd, xj_12]
      refine xS.s1 rfl rfl ?_
      try dsimp only [Nat.reduceAdd]
      refine xS.s1 rfl rfl ?_
      try dsimp only [Nat.reduceAdd]
      refine xS.s1 rfl rfl ?_
      try dsimp only [Nat.reduceAdd]
      refine xS.s1 rfl rfl ?_
      try dsimp only [Nat.reduceAdd]
      refine xS.s1 rfl rfl ?_
      try dsimp only [Nat.reduceAdd]
      refine xS.s1 rfl rfl ?_
      try dsimp only [Nat.reduceAdd]
      refine xS.s1 rfl rfl ?_
      try dsimp only [Nat.reduceAdd]
      refine xS.ret rfl rfl rfl (fun _ _ => rfl) ?_
      refine ⟨rfl, ?_⟩
      first | (rw [if_pos e17, if_pos e47]; done) | (rw [if_pos e17, if_neg e47]; done) | (rw [if_neg e17, if_pos e47]; done) | (rw [if_neg e17, if_neg e47]; done)
  · have g17 := xf_eq h17
    have e17 := xif1n g17
    refine xS.s1 rfl rfl ?_
    try dsimp only [Nat.reduceAdd]
    refine xS.s1 rfl rfl ?_
    try dsimp only [Nat.reduceAdd]
    refine xS.s1 rfl rfl ?_
    try dsimp only [Nat.reduceAdd]
    refine xS.s1 rfl rfl ?_
    try dsimp only [Nat.reduceAdd]
    refine xS.gR rfl rfl rfl ⟨by decide, rfl⟩ rfl ?_
    try dsimp only [Nat.reduceAdd]
    refine xS.s1 rfl rfl ?_
    try dsimp only [Nat.reduceAdd]
    refine xS.s1 rfl rfl ?_
    try dsimp only [Nat.reduceAdd]
    refine xS.gR rfl rfl rfl ⟨by decide, rfl⟩ rfl ?_
    try dsimp only [Nat.reduceAdd]
    refine xS.s1 rfl rfl ?_
    try dsimp only [Nat.reduceAdd]
    refine xS.s1 rfl rfl ?_
    try dsimp only [Nat.reduceAdd]
    refine xS.s1 rfl rfl ?_
    try dsimp only [Nat.reduceAdd]
    -- 41 yX8_shown
    refine xS.cv rfl rfl rfl (hb.1 _) rfl rfl ⟨by decide, rfl, rfl⟩ (c_X8_shown_C hb hF hp hL (by have := hF.2.2; omega) hs hm (fun s h => ⟨Nat.lt_of_le_of_lt (xsrc_le h) hlt, hx s (Nat.lt_of_le_of_lt (xsrc_le h) hlt)⟩)) (fun v M1 hv => ?_)
    rw [hv.1, hv.2]
    clear hv M1 v
    try dsimp only [Nat.reduceAdd, Option.toList, List.cons_append, List.nil_append, List.drop]
    -- 44 yX8_isBroken
    refine xS.cv rfl rfl rfl (hb.1 _) rfl rfl ⟨by decide, rfl, rfl⟩ (c_X8_isBroken hb hR.2.1.1 hR.2.1.2) (fun v M1 hv => ?_)
    rw [hv.1, hv.2]
    clear hv M1 v
    try dsimp only [Nat.reduceAdd, Option.toList, List.cons_append, List.nil_append, List.drop]
    refine xS.br0 (c := .eq) (off := 11) (l := 3) rfl rfl (fun h47 => ?_) (fun h47 => ?_)
    · have g47 := xt_eq h47
      have e47 := xif0n g47
      refine xS.s1 rfl rfl ?_
      try dsimp only [Nat.reduceAdd, xi_0]
      refine xS.s1 rfl rfl ?_
      try dsimp only [Nat.reduceAdd]
      refine xS.s1 rfl rfl ?_
      try dsimp only [Nat.reduceAdd]
      refine xS.s1 rfl rfl ?_
      try dsimp only [Nat.reduceAdd]
      refine xS.s1 rfl rfl ?_
      try dsimp only [Nat.reduceAdd]
      refine xS.ret rfl rfl rfl (fun _ _ => rfl) ?_
      refine ⟨rfl, ?_⟩
      first | (rw [if_pos e17, if_pos e47]; done) | (rw [if_pos e17, if_neg e47]; done) | (rw [if_neg e17, if_pos e47]; done) | (rw [if_neg e17, if_neg e47]; done)
    · have g47 := xf_eq h47
      have e47 := xif1n g47
      refine xS.s1 rfl rfl ?_
      try dsimp only [Nat.reduceAdd, xj_12]
      refine xS.s1 rfl rfl ?_
      try dsimp only [Nat.reduceAdd]
      refine xS.s1 rfl rfl ?_
      try dsimp only [Nat.reduceAdd]
      refine xS.s1 rfl rfl ?_
      try dsimp only [Nat.reduceAdd]
      refine xS.s1 rfl rfl ?_
      try dsimp only [Nat.reduceAdd]
      refine xS.s1 rfl rfl ?_
      try dsimp only [Nat.reduceAdd]
      refine xS.s1 rfl rfl ?_
      try dsimp only [Nat.reduceAdd]
      refine xS.s1 rfl rfl ?_
      try dsimp only [Nat.reduceAdd]
      refine xS.ret rfl rfl rfl (fun _ _ => rfl) ?_
      refine ⟨rfl, ?_⟩
      first | (rw [if_pos e17, if_pos e47]; done) | (rw [if_pos e17, if_neg e47]; done) | (rw [if_neg e17, if_pos e47]; done) | (rw [if_neg e17, if_neg e47]; done)

set_option maxRecDepth 10000 in
theorem c_X11_isSafeBeforeAll (hb : xro b.1) (hR : xRm g b.1 G T Lw) (hp : xpn g) (hs : g 15 1 = nI m) (hm : m ≤ 12) (hx : ∀ i, i ≤ t → xstp (g 16 i)) (hlt : t < m) : xT (k + 5) 146 [.ref 0, .int (nI t)] (xH b g l) (fun r M' => M' = xH b g l ∧ r = some (.int (if xfst (fun k => !decide (xfb (g (b.1 + 3)) T (g 16 t) (xshw (g (b.1 + 1)) (Lw k / 4) (Lw k % 4) (fun i => xN (g 16 i)) t) = none)) G = none then 1 else 0))) := by
  refine xT.of rfl (Nat.le_of_ble_eq_true rfl) ?_
  dsimp only [lv_args]
  refine xS.s1 rfl rfl ?_
  try dsimp only [Nat.reduceAdd, xi_0]
  refine xS.s1 rfl rfl ?_
  try dsimp only [Nat.reduceAdd]
  refine xS.pick [0, 1, 2] rfl ?_
  refine xS.loop (σ := Unit) (G) (fun j S => [(2, .int (nI j)), (0, .ref 0), (1, .int (nI t))]) (fun _ _ => xH b g l) (fun j _ => xfst (fun k => !decide (xfb (g (b.1 + 3)) T (g 16 t) (xshw (g (b.1 + 1)) (Lw k / 4) (Lw k % 4) (fun i => xN (g 16 i)) t) = none)) j = none) (()) (rfl) (rfl) (rfl) ?_
  intro j S hj hI ih
  try dsimp only
  have h6 := hR.1.2
  refine xS.s1 rfl rfl ?_
  try dsimp only [Nat.reduceAdd]
  refine xS.s1 rfl rfl ?_
  try dsimp only [Nat.reduceAdd]
  refine xS.gR rfl rfl rfl ⟨by decide, rfl⟩ rfl ?_
  try dsimp only [Nat.reduceAdd]
  -- 7 yX8_glasses
  refine xS.cv rfl rfl rfl (hb.1 _) rfl rfl ⟨by decide, rfl, rfl⟩ (c_X8_glasses hb) (fun v M1 hv => ?_)
  rw [hv.1, hv.2]
  clear hv M1 v
  try dsimp only [Nat.reduceAdd, Option.toList, List.cons_append, List.nil_append, List.drop]
  refine xS.br (c := .ge) (off := 46) (l := 3) rfl rfl (fun h10 => ?_) (fun h10 => ?_)
  · have g10 := xt_ge h10
    refine xS.s1 rfl rfl ?_
    try dsimp only [Nat.reduceAdd, xi_1]
    refine xS.ret rfl rfl rfl (fun _ _ => rfl) ?_
    have h6 := hR.1.2
    rw [hR.1.1] at g10
    have e := xnle g10 (by omega) (by omega)
    rw [show G = j by omega, hI]
    exact ⟨rfl, rfl⟩
  · have g10 := xf_ge h10
    rw [hR.1.1] at g10
    have hlk := xnlt g10 (by omega) (by omega)
    refine xS.s1 rfl rfl ?_
    try dsimp only [Nat.reduceAdd]
    refine xS.gR rfl rfl rfl ⟨by decide, rfl⟩ rfl ?_
    try dsimp only [Nat.reduceAdd]
    refine xS.s1 rfl rfl ?_
    try dsimp only [Nat.reduceAdd]
    refine xS.gR rfl rfl rfl ⟨by decide, rfl⟩ rfl ?_
    try dsimp only [Nat.reduceAdd]
    refine xS.s1 rfl rfl ?_
    try dsimp only [Nat.reduceAdd]
    -- 22 yX0_get
    refine xS.cv rfl rfl rfl (xce_trial.1 _) rfl rfl ⟨by decide, rfl, rfl⟩ (c_X0_get xce_trial hs hm hlt) (fun v M1 hv => ?_)
    rw [hv.1, hv.2]
    clear hv M1 v
    try dsimp only [Nat.reduceAdd, Option.toList, List.cons_append, List.nil_append, List.drop]
    refine xS.s1 rfl rfl ?_
    try dsimp only [Nat.reduceAdd]
    refine xS.gR rfl rfl rfl ⟨by decide, rfl⟩ rfl ?_
    try dsimp only [Nat.reduceAdd]
    refine xS.s1 rfl rfl ?_
    try dsimp only [Nat.reduceAdd]
    refine xS.s1 rfl rfl ?_
    try dsimp only [Nat.reduceAdd]
    -- 31 yX11_paneOf
    refine xS.cv rfl rfl rfl rfl rfl rfl ⟨by decide, rfl, rfl⟩ (c_X11_paneOf hb hR hlk) (fun v M1 hv => ?_)
    rw [hv.1, hv.2]
    clear hv M1 v
    try dsimp only [Nat.reduceAdd, Option.toList, List.cons_append, List.nil_append, List.drop]
    refine xS.s1 rfl rfl ?_
    try dsimp only [Nat.reduceAdd]
    refine xS.gR rfl rfl rfl ⟨by decide, rfl⟩ rfl ?_
    try dsimp only [Nat.reduceAdd]
    refine xS.s1 rfl rfl ?_
    try dsimp only [Nat.reduceAdd]
    -- 39 yX8_shown
    refine xS.cv rfl rfl rfl (hb.1 _) rfl rfl ⟨by decide, rfl, rfl⟩ (c_X8_shown_C hb xce_trial hp (hR.2.2.1 j hlk).2 (by omega) hs hm (fun s h => ⟨Nat.lt_of_le_of_lt (xsrc_le h) hlt, hx s (xsrc_le h)⟩)) (fun v M1 hv => ?_)
    rw [hv.1, hv.2]
    clear hv M1 v
    try dsimp only [Nat.reduceAdd, Option.toList, List.cons_append, List.nil_append, List.drop]
    -- 42 yX8_isBroken
    refine xS.cv rfl rfl rfl (hb.1 _) rfl rfl ⟨by decide, rfl, rfl⟩ (c_X8_isBroken hb hR.2.1.1 hR.2.1.2) (fun v M1 hv => ?_)
    rw [hv.1, hv.2]
    clear hv M1 v
    try dsimp only [Nat.reduceAdd, Option.toList, List.cons_append, List.nil_append, List.drop]
    refine xS.br0 (c := .eq) (off := 5) (l := 3) rfl rfl (fun h45 => ?_) (fun h45 => ?_)
    · have g45 := xt_eq h45
      refine xS.s1 rfl rfl ?_
      try dsimp only [Nat.reduceAdd, xi_1]
      rw [nI_1]
      refine xS.s1 rfl rfl ?_
      try dsimp only [Nat.reduceAdd]
      refine xS.pick [0, 1, 2] rfl ?_
      exact ih () (by omega) (xfst_n hI (by simp [xif0n g45]))
    · have g45 := xf_eq h45
      refine xS.s1 rfl rfl ?_
      try dsimp only [Nat.reduceAdd, xi_0]
      refine xS.ret rfl rfl rfl (fun _ _ => rfl) ?_
      have h6 := hR.1.2
      rw [xfst_at hI (by simp [xif1n g45]) hlk]
      exact ⟨rfl, rfl⟩

end
end
