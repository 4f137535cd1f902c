/-! the words that are kept, by their places -/
def xWC : List (List Cond) := [k2_sels lw_privs, tables_1_1, tables_1_2, tables_1_3, tables_1_4, tables_1_5, tables_1_6]
def xw (q : Nat) : Option Cond := match xWC[q / 1000]? with
  | some r => r[q % 1000]?
  | none => none
def xWS : List Cond := lw_tbl.filter goodWord
theorem xWC_in : ∀ r ∈ xWC, ∀ w ∈ r, w ∈ lw_tbl := List.forall_mem_cons.mpr ⟨fun w h => List.mem_append_left _ h, List.forall_mem_cons.mpr ⟨fun w h => List.mem_append_right _ (List.mem_append_left _ h), List.forall_mem_cons.mpr ⟨fun w h => List.mem_append_right _ (List.mem_append_right _ (List.mem_append_left _ h)), List.forall_mem_cons.mpr ⟨fun w h => List.mem_append_right _ (List.mem_append_right _ (List.mem_append_right _ (List.mem_append_left _ h))), List.forall_mem_cons.mpr ⟨fun w h => List.mem_append_right _ (List.mem_append_right _ (List.mem_append_right _ (List.mem_append_right _ (List.mem_append_left _ h)))), List.forall_mem_cons.mpr ⟨fun w h => List.mem_append_right _ (List.mem_append_right _ (List.mem_append_right _ (List.mem_append_right _ (List.mem_append_right _ (List.mem_append_left _ h))))), List.forall_mem_cons.mpr ⟨fun w h => List.mem_append_right _ (List.mem_append_right _ (List.mem_append_right _ (List.mem_append_right _ (List.mem_append_right _ (List.mem_append_right _ (h)))))), fun _ h => absurd h List.not_mem_nil⟩⟩⟩⟩⟩⟩⟩
theorem xw_in {q : Nat} {w : Cond} (h : xw q = some w) : w ∈ lw_tbl := by
  unfold xw at h
  split at h
  · rename_i r hr
    exact xWC_in r (List.mem_of_getElem? hr) w (List.mem_of_getElem? h)
  · cases h
theorem xw_mem {q : Nat} {w : Cond} (h : xw q = some w) (hg : goodWord w = true) : w ∈ xWS := List.mem_filter.mpr ⟨xw_in h, hg⟩
theorem xWS_good {c : Cond} (hc : c ∈ xWS) : GoodIn xWS (c :: xWS) := fun w h => by
  have h1 : w ∈ xWS := (List.mem_cons.mp h).elim (fun e => e ▸ hc) id
  exact ⟨h1, good_of_word (List.mem_filter.mp h1).2⟩
theorem mw_0 : Cond.fieldLink RX11 11 "LimpMirror" "rows" "[LLimpMirror$Cells;" ∈ xWS := xw_mem (q := 1170) rfl rfl
theorem mw_1 : Cond.fieldLink RX11 15 "LimpMirror" "texts" "[LLimpMirror$Cells;" ∈ xWS := xw_mem (q := 1171) rfl rfl
theorem mw_2 : Cond.fieldLink RX11 20 "LimpMirror" "panes" "[LLimpMirror$Pane;" ∈ xWS := xw_mem (q := 1172) rfl rfl
theorem mw_3 : Cond.fieldLink RX11 27 "LimpMirror" "deeds" "LLimpMirror$Deeds;" ∈ xWS := xw_mem (q := 1173) rfl rfl
theorem mw_4 : Cond.fieldLink RX11 31 "LimpMirror" "kept" "[LLimpMirror$Deeds;" ∈ xWS := xw_mem (q := 1174) rfl rfl
theorem mw_5 : Cond.fieldLink RX11 38 "LimpMirror" "room" "LLimpMirror$Room;" ∈ xWS := xw_mem (q := 1175) rfl rfl
theorem mw_6 : Cond.fieldLink RX11 42 "LimpMirror" "draft" "LLimpMirror$Room;" ∈ xWS := xw_mem (q := 1176) rfl rfl
theorem mw_7 : Cond.fieldLink RX11 48 "LimpMirror" "trial" "LLimpMirror$Cells;" ∈ xWS := xw_mem (q := 1177) rfl rfl
theorem mw_8 : Cond.fieldLink RX11 52 "LimpMirror" "sets" "[I" ∈ xWS := xw_mem (q := 1178) rfl rfl
theorem mw_9 : Cond.fieldLink RX11 56 "LimpMirror" "tally" "[I" ∈ xWS := xw_mem (q := 1179) rfl rfl
theorem mw_10 : Cond.fieldLink RX11 62 "LimpMirror" "chains" "LLimpMirror$Chains;" ∈ xWS := xw_mem (q := 1180) rfl rfl
theorem mw_11 : Cond.fieldLink RX11 66 "LimpMirror" "told" "I" ∈ xWS := xw_mem (q := 1181) rfl rfl
theorem mw_12 : Cond.fieldLink RX11 70 "LimpMirror" "over" "J" ∈ xWS := xw_mem (q := 1182) rfl rfl
theorem mw_13 : Cond.fieldLink RX11 74 "LimpMirror" "under" "J" ∈ xWS := xw_mem (q := 1183) rfl rfl
theorem mw_14 : Cond.fieldLink RX11 77 "LimpMirror" "latestFinding" "I" ∈ xWS := xw_mem (q := 1184) rfl rfl
theorem mw_15 : Cond.fieldLink RX11 80 "LimpMirror" "findingCounts" "[I" ∈ xWS := xw_mem (q := 1185) rfl rfl
theorem mw_16 : Cond.fieldLink RX2 11 "LimpMirror$Deeds" "facts" "[I" ∈ xWS := xw_mem (q := 1038) rfl rfl
theorem mw_17 : Cond.fieldLink RX2 15 "LimpMirror$Deeds" "size" "I" ∈ xWS := xw_mem (q := 1039) rfl rfl
theorem mw_18 : Cond.fieldLink RX8 9 "LimpMirror$Room" "habits" "[I" ∈ xWS := xw_mem (q := 1053) rfl rfl
theorem mw_19 : Cond.fieldLink RX8 15 "LimpMirror$Room" "glassLaws" "[I" ∈ xWS := xw_mem (q := 1054) rfl rfl
theorem mw_20 : Cond.fieldLink RX8 18 "LimpMirror$Room" "glasses" "I" ∈ xWS := xw_mem (q := 1055) rfl rfl
theorem mw_21 : Cond.fieldLink RX8 22 "LimpMirror$Room" "termSteps" "[I" ∈ xWS := xw_mem (q := 1056) rfl rfl
theorem mw_22 : Cond.fieldLink RX8 25 "LimpMirror$Room" "terms" "I" ∈ xWS := xw_mem (q := 1057) rfl rfl
theorem mw_23 : Cond.fieldLink RX0 9 "LimpMirror$Cells" "size" "I" ∈ xWS := xw_mem (q := 1078) rfl rfl
theorem mw_24 : Cond.fieldLink RX0 21 "LimpMirror$Cells" "cells" "[I" ∈ xWS := xw_mem (q := 1077) rfl rfl
theorem mw_25 : Cond.fieldLink RX1 9 "LimpMirror$Chains" "rowsFrom" "[I" ∈ xWS := xw_mem (q := 1090) rfl rfl
theorem mw_26 : Cond.fieldLink RX1 15 "LimpMirror$Chains" "stillFrom" "[I" ∈ xWS := xw_mem (q := 1091) rfl rfl
theorem mw_27 : Cond.fieldLink RX1 18 "LimpMirror$Chains" "rows" "I" ∈ xWS := xw_mem (q := 1092) rfl rfl
theorem mw_28 : Cond.fieldLink RX1 22 "LimpMirror$Chains" "fewest" "I" ∈ xWS := xw_mem (q := 1093) rfl rfl
theorem mw_29 : Cond.fieldLink RX1 25 "LimpMirror$Chains" "firsts" "I" ∈ xWS := xw_mem (q := 1094) rfl rfl
theorem mw_30 : Cond.fieldLink RX7 9 "LimpMirror$Pane" "kind" "I" ∈ xWS := xw_mem (q := 1118) rfl rfl
theorem mw_31 : Cond.fieldLink RX7 15 "LimpMirror$Pane" "delay" "I" ∈ xWS := xw_mem (q := 1119) rfl rfl
theorem mw_32 : Cond.fieldLink RX12 7 "LimpMirrorModel" "rowSize" "[I" ∈ xWS := xw_mem (q := 4101) rfl rfl
theorem mw_33 : Cond.fieldLink RX12 13 "LimpMirrorModel" "rowAt" "[I" ∈ xWS := xw_mem (q := 4102) rfl rfl
theorem mw_34 : Cond.fieldLink RX12 16 "LimpMirrorModel" "textSize" "[I" ∈ xWS := xw_mem (q := 4103) rfl rfl
theorem mw_35 : Cond.fieldLink RX12 19 "LimpMirrorModel" "textAt" "[I" ∈ xWS := xw_mem (q := 4104) rfl rfl
theorem mw_36 : Cond.fieldLink RX12 22 "LimpMirrorModel" "readHabit" "[I" ∈ xWS := xw_mem (q := 4105) rfl rfl
theorem mw_37 : Cond.fieldLink RX12 25 "LimpMirrorModel" "readGlass" "[I" ∈ xWS := xw_mem (q := 4107) rfl rfl
theorem mw_38 : Cond.fieldLink RX12 28 "LimpMirrorModel" "readTerm" "[I" ∈ xWS := xw_mem (q := 4109) rfl rfl
theorem mw_39 : Cond.fieldLink RX12 31 "LimpMirrorModel" "habits" "[I" ∈ xWS := xw_mem (q := 4110) rfl rfl
theorem mw_40 : Cond.fieldLink RX12 34 "LimpMirrorModel" "glassAt" "[I" ∈ xWS := xw_mem (q := 4112) rfl rfl
theorem mw_41 : Cond.fieldLink RX12 37 "LimpMirrorModel" "termAt" "[I" ∈ xWS := xw_mem (q := 4114) rfl rfl
theorem mw_42 : Cond.fieldLink RX12 40 "LimpMirrorModel" "did" "[I" ∈ xWS := xw_mem (q := 4116) rfl rfl
theorem mw_43 : Cond.fieldLink RX12 43 "LimpMirrorModel" "before" "[I" ∈ xWS := xw_mem (q := 4117) rfl rfl
theorem mw_44 : Cond.fieldLink RX12 46 "LimpMirrorModel" "keptMany" "[I" ∈ xWS := xw_mem (q := 4118) rfl rfl
theorem mw_45 : Cond.fieldLink RX12 49 "LimpMirrorModel" "keptDid" "[I" ∈ xWS := xw_mem (q := 4119) rfl rfl
theorem mw_46 : Cond.fieldLink RX12 52 "LimpMirrorModel" "keptBefore" "[I" ∈ xWS := xw_mem (q := 4120) rfl rfl
theorem mw_47 : Cond.fieldLink RX12 55 "LimpMirrorModel" "lower" "J" ∈ xWS := xw_mem (q := 4123) rfl rfl
theorem mw_48 : Cond.fieldLink RX12 59 "LimpMirrorModel" "times" "[I" ∈ xWS := xw_mem (q := 4125) rfl rfl
theorem mw_49 : Cond.fieldLink RX12 62 "LimpMirrorModel" "doings" "[I" ∈ xWS := xw_mem (q := 4126) rfl rfl
theorem mw_50 : Cond.fieldLink RX12 65 "LimpMirrorModel" "other" "[I" ∈ xWS := xw_mem (q := 4127) rfl rfl
theorem mw_51 : Cond.fieldLink RX12 68 "LimpMirrorModel" "shown" "[I" ∈ xWS := xw_mem (q := 4128) rfl rfl
theorem mw_52 : Cond.fieldLink RX12 71 "LimpMirrorModel" "found" "I" ∈ xWS := xw_mem (q := 4124) rfl rfl
theorem mw_53 : Cond.fieldLink RX12 75 "LimpMirrorModel" "asked" "I" ∈ xWS := xw_mem (q := 4121) rfl rfl
theorem mw_54 : Cond.fieldLink RX12 106 "LimpMirrorModel" "position" "I" ∈ xWS := xw_mem (q := 4129) rfl rfl
theorem mw_55 : Cond.fieldLink RX12 112 "LimpMirrorModel" "from" "I" ∈ xWS := xw_mem (q := 4130) rfl rfl
theorem mw_56 : Cond.fieldLink RX12 109 "LimpMirrorModel" "size" "I" ∈ xWS := xw_mem (q := 4131) rfl rfl
theorem mw_57 : Cond.fieldLink RX12 125 "LimpMirrorModel" "readGlasses" "I" ∈ xWS := xw_mem (q := 4106) rfl rfl
theorem mw_58 : Cond.fieldLink RX12 128 "LimpMirrorModel" "readTerms" "I" ∈ xWS := xw_mem (q := 4108) rfl rfl
theorem mw_59 : Cond.fieldLink RX12 147 "LimpMirrorModel" "glasses" "I" ∈ xWS := xw_mem (q := 4111) rfl rfl
theorem mw_60 : Cond.fieldLink RX12 150 "LimpMirrorModel" "terms" "I" ∈ xWS := xw_mem (q := 4113) rfl rfl
theorem mw_61 : Cond.fieldLink RX12 153 "LimpMirrorModel" "deeds" "I" ∈ xWS := xw_mem (q := 4115) rfl rfl
theorem mw_62 : Cond.fieldLink RX12 78 "LimpMirrorModel" "upper" "J" ∈ xWS := xw_mem (q := 4122) rfl rfl
theorem mw_63 : Cond.fieldLink RX12 260 "LimpMirrorModel" "mix" "J" ∈ xWS := xw_mem (q := 4132) rfl rfl
theorem mw_64 : Cond.code yX0_init cX0_init 2 none ∈ xWS := xw_mem (q := 1072) rfl rfl
theorem mw_65 : Cond.initialized RX0 ∈ xWS := xw_mem (q := 1005) rfl rfl
theorem mw_66 : Cond.code yX0_isMissing cX0_isMissing 1 (some .boolean) ∈ xWS := xw_mem (q := 2007) rfl rfl
theorem mw_67 : Cond.code yX0_size cX0_size 1 (some .int) ∈ xWS := xw_mem (q := 2056) rfl rfl
theorem mw_68 : Cond.code yX0_has cX0_has 2 (some .boolean) ∈ xWS := xw_mem (q := 2011) rfl rfl
theorem mw_69 : Cond.code yX0_hasPlaces cX0_hasPlaces 3 (some .boolean) ∈ xWS := xw_mem (q := 2040) rfl rfl
theorem mw_70 : Cond.code yX0_get cX0_get 2 (some .int) ∈ xWS := xw_mem (q := 2015) rfl rfl
theorem mw_71 : Cond.code yX0_set cX0_set 3 none ∈ xWS := xw_mem (q := 2020) rfl rfl
theorem mw_72 : Cond.code yX0_open cX0_open 4 none ∈ xWS := xw_mem (q := 1233) rfl rfl
theorem mw_73 : Cond.code yX0_drop cX0_drop 1 none ∈ xWS := xw_mem (q := 2032) rfl rfl
theorem mw_74 : Cond.code yX0_take cX0_take 5 none ∈ xWS := xw_mem (q := 2044) rfl rfl
theorem mw_75 : Cond.code yX0_takeAll cX0_takeAll 2 none ∈ xWS := xw_mem (q := 3132) rfl rfl
theorem mw_76 : Cond.code yX0_stepAt cX0_stepAt 2 (some .int) ∈ xWS := xw_mem (q := 2230) rfl rfl
theorem mw_77 : Cond.code yX1_init cX1_init 1 none ∈ xWS := xw_mem (q := 1088) rfl rfl
theorem mw_78 : Cond.initialized RX1 ∈ xWS := xw_mem (q := 1007) rfl rfl
theorem mw_79 : Cond.code yX1_rows cX1_rows 1 (some .int) ∈ xWS := xw_mem (q := 4000) rfl rfl
theorem mw_80 : Cond.code yX1_fewestStill cX1_fewestStill 1 (some .int) ∈ xWS := xw_mem (q := 4012) rfl rfl
theorem mw_81 : Cond.code yX1_firstSteps cX1_firstSteps 1 (some .int) ∈ xWS := xw_mem (q := 4004) rfl rfl
theorem mw_82 : Cond.code yX1_weigh cX1_weigh 7 none ∈ xWS := xw_mem (q := 3215) rfl rfl
theorem mw_83 : Cond.code yX1_isHead cX1_isHead 3 (some .boolean) ∈ xWS := xw_mem (q := 3229) rfl rfl
theorem mw_84 : Cond.code yX1_heirOf cX1_heirOf 4 (some .int) ∈ xWS := xw_mem (q := 3219) rfl rfl
theorem mw_85 : Cond.code yX1_weighStep cX1_weighStep 10 none ∈ xWS := xw_mem (q := 3224) rfl rfl
theorem mw_86 : Cond.code yX1_shownAtHead cX1_shownAtHead 4 (some .int) ∈ xWS := xw_mem (q := 3232) rfl rfl
theorem mw_87 : Cond.code yX1_addChain cX1_addChain 6 none ∈ xWS := xw_mem (q := 3236) rfl rfl
theorem mw_88 : Cond.code yX2_init cX2_init 1 none ∈ xWS := xw_mem (q := 1033) rfl rfl
theorem mw_89 : Cond.initialized RX2 ∈ xWS := xw_mem (q := 1003) rfl rfl
theorem mw_90 : Cond.code yX2_size cX2_size 1 (some .int) ∈ xWS := xw_mem (q := 2173) rfl rfl
theorem mw_91 : Cond.code yX2_isMissing cX2_isMissing 1 (some .boolean) ∈ xWS := xw_mem (q := 3121) rfl rfl
theorem mw_92 : Cond.code yX2_drop cX2_drop 1 none ∈ xWS := xw_mem (q := 1169) rfl rfl
theorem mw_93 : Cond.code yX2_fact cX2_fact 4 (some .int) ∈ xWS := xw_mem (q := 2161) rfl rfl
theorem mw_94 : Cond.code yX2_write cX2_write 4 none ∈ xWS := xw_mem (q := 3071) rfl rfl
theorem mw_95 : Cond.code yX2_add cX2_add 3 none ∈ xWS := xw_mem (q := 3067) rfl rfl
theorem mw_96 : Cond.code yX2_see cX2_see 4 none ∈ xWS := xw_mem (q := 3075) rfl rfl
theorem mw_97 : Cond.code yX2_cutTo cX2_cutTo 2 none ∈ xWS := xw_mem (q := 2109) rfl rfl
theorem mw_98 : Cond.code yX2_takeAll cX2_takeAll 2 none ∈ xWS := xw_mem (q := 3112) rfl rfl
theorem mw_99 : Cond.code yX2_howManyBefore cX2_howManyBefore 4 (some .int) ∈ xWS := xw_mem (q := 2157) rfl rfl
theorem mw_100 : Cond.code yX2_howManyBrokeBefore cX2_howManyBrokeBefore 4 (some .int) ∈ xWS := xw_mem (q := 2165) rfl rfl
theorem mw_101 : Cond.code yX2_howManyBroke cX2_howManyBroke 4 (some .int) ∈ xWS := xw_mem (q := 3097) rfl rfl
theorem mw_102 : Cond.code yX2_firstThatBroke cX2_firstThatBroke 2 (some .int) ∈ xWS := xw_mem (q := 3093) rfl rfl
theorem mw_103 : Cond.code yX2_stepAt cX2_stepAt 2 (some .int) ∈ xWS := xw_mem (q := 2234) rfl rfl
theorem mw_104 : Cond.code yX3_init cX3_init 1 none ∈ xWS := xw_mem (q := 1036) rfl rfl
theorem mw_105 : Cond.initialized RX3 ∈ xWS := xw_mem (q := 1002) rfl rfl
theorem mw_106 : Cond.code yX4_init cX4_init 3 none ∈ xWS := xw_mem (q := 1156) rfl rfl
theorem mw_107 : Cond.initialized RX4 ∈ xWS := xw_mem (q := 1013) rfl rfl
theorem mw_108 : Cond.code yX4_source cX4_source 2 (some .int) ∈ xWS := xw_mem (q := 2200) rfl rfl
theorem mw_109 : Cond.code yX4_thinks cX4_thinks 2 (some .boolean) ∈ xWS := xw_mem (q := 3005) rfl rfl
theorem mw_110 : Cond.code yX5_init cX5_init 3 none ∈ xWS := xw_mem (q := 1113) rfl rfl
theorem mw_111 : Cond.initialized RX5 ∈ xWS := xw_mem (q := 1009) rfl rfl
theorem mw_112 : Cond.code yX5_source cX5_source 2 (some .int) ∈ xWS := xw_mem (q := 2203) rfl rfl
theorem mw_113 : Cond.code yX5_isOf cX5_isOf 2 (some .boolean) ∈ xWS := xw_mem (q := 2184) rfl rfl
theorem mw_114 : Cond.code yX6_init cX6_init 3 none ∈ xWS := xw_mem (q := 1147) rfl rfl
theorem mw_115 : Cond.initialized RX6 ∈ xWS := xw_mem (q := 1012) rfl rfl
theorem mw_116 : Cond.code yX6_source cX6_source 2 (some .int) ∈ xWS := xw_mem (q := 2211) rfl rfl
theorem mw_117 : Cond.code yX6_placesToLimp cX6_placesToLimp 1 (some .int) ∈ xWS := xw_mem (q := 2214) rfl rfl
theorem mw_118 : Cond.code yX7_init cX7_init 3 none ∈ xWS := xw_mem (q := 1116) rfl rfl
theorem mw_119 : Cond.initialized RX7 ∈ xWS := xw_mem (q := 1008) rfl rfl
theorem mw_120 : Cond.code yX7_kind cX7_kind 1 (some .int) ∈ xWS := xw_mem (q := 2143) rfl rfl
theorem mw_121 : Cond.code yX7_delay cX7_delay 1 (some .int) ∈ xWS := xw_mem (q := 2153) rfl rfl
theorem mw_122 : Cond.code yX7_isOf cX7_isOf 2 (some .boolean) ∈ xWS := xw_mem (q := 2189) rfl rfl
theorem mw_123 : Cond.code yX7_source cX7_source 2 (some .int) ∈ xWS := xw_mem (q := 2224) rfl rfl
theorem mw_124 : Cond.code yX7_thinks cX7_thinks 2 (some .boolean) ∈ xWS := xw_mem (q := 3014) rfl rfl
theorem mw_125 : Cond.code yX7_isOdd cX7_isOdd 1 (some .boolean) ∈ xWS := xw_mem (q := 2222) rfl rfl
theorem mw_126 : Cond.code yX8_init cX8_init 1 none ∈ xWS := xw_mem (q := 1051) rfl rfl
theorem mw_127 : Cond.initialized RX8 ∈ xWS := xw_mem (q := 1004) rfl rfl
theorem mw_128 : Cond.code yX8_glasses cX8_glasses 1 (some .int) ∈ xWS := xw_mem (q := 2113) rfl rfl
theorem mw_129 : Cond.code yX8_terms cX8_terms 1 (some .int) ∈ xWS := xw_mem (q := 3051) rfl rfl
theorem mw_130 : Cond.code yX8_lawOf cX8_lawOf 2 (some .int) ∈ xWS := xw_mem (q := 2133) rfl rfl
theorem mw_131 : Cond.code yX8_termStep cX8_termStep 3 (some .int) ∈ xWS := xw_mem (q := 3055) rfl rfl
theorem mw_132 : Cond.code yX8_thought cX8_thought 2 (some .int) ∈ xWS := xw_mem (q := 3018) rfl rfl
theorem mw_133 : Cond.code yX8_seen cX8_seen 5 (some .int) ∈ xWS := xw_mem (q := 2238) rfl rfl
theorem mw_134 : Cond.code yX8_shown cX8_shown 5 (some .int) ∈ xWS := xw_mem (q := 2193) rfl rfl
theorem mw_135 : Cond.code yX8_stepsSeenAs cX8_stepsSeenAs 6 (some .int) ∈ xWS := xw_mem (q := 3029) rfl rfl
theorem mw_136 : Cond.code yX8_firstBroken cX8_firstBroken 4 (some .int) ∈ xWS := xw_mem (q := 3079) rfl rfl
theorem mw_137 : Cond.code yX8_isBroken cX8_isBroken 3 (some .boolean) ∈ xWS := xw_mem (q := 3142) rfl rfl
theorem mw_138 : Cond.code yX8_read cX8_read 4 (some .int) ∈ xWS := xw_mem (q := 2075) rfl rfl
theorem mw_139 : Cond.code yX8_readItems cX8_readItems 7 (some .int) ∈ xWS := xw_mem (q := 2088) rfl rfl
theorem mw_140 : Cond.code yX8_readGlass cX8_readGlass 4 (some .int) ∈ xWS := xw_mem (q := 2096) rfl rfl
theorem mw_141 : Cond.code yX8_readTerm cX8_readTerm 5 (some .int) ∈ xWS := xw_mem (q := 2092) rfl rfl
theorem mw_142 : Cond.code yX8_kindOf cX8_kindOf 2 (some .int) ∈ xWS := xw_mem (q := 2099) rfl rfl
theorem mw_143 : Cond.code yX8_afterBlanks cX8_afterBlanks 3 (some .int) ∈ xWS := xw_mem (q := 2078) rfl rfl
theorem mw_144 : Cond.code yX8_isFigure cX8_isFigure 3 (some .boolean) ∈ xWS := xw_mem (q := 2083) rfl rfl
theorem mw_145 : Cond.code yX9_init cX9_init 3 none ∈ xWS := xw_mem (q := 1129) rfl rfl
theorem mw_146 : Cond.initialized RX9 ∈ xWS := xw_mem (q := 1010) rfl rfl
theorem mw_147 : Cond.code yX9_source cX9_source 2 (some .int) ∈ xWS := xw_mem (q := 2218) rfl rfl
theorem mw_148 : Cond.code yX9_isOf cX9_isOf 2 (some .boolean) ∈ xWS := xw_mem (q := 2180) rfl rfl
theorem mw_149 : Cond.code yX10_init cX10_init 3 none ∈ xWS := xw_mem (q := 1138) rfl rfl
theorem mw_150 : Cond.initialized RX10 ∈ xWS := xw_mem (q := 1011) rfl rfl
theorem mw_151 : Cond.code yX10_thinks cX10_thinks 2 (some .boolean) ∈ xWS := xw_mem (q := 3013) rfl rfl
theorem mw_152 : Cond.code yX11_init cX11_init 2 none ∈ xWS := xw_mem (q := 1021) rfl rfl
theorem mw_153 : Cond.initialized RX11 ∈ xWS := xw_mem (q := 1001) rfl rfl
theorem mw_154 : Cond.code yX11_row cX11_row 3 (some .int) ∈ xWS := xw_mem (q := 1222) rfl rfl
theorem mw_155 : Cond.code yX11_lay cX11_lay 5 (some .int) ∈ xWS := xw_mem (q := 2000) rfl rfl
theorem mw_156 : Cond.code yX11_at cX11_at 4 (some .int) ∈ xWS := xw_mem (q := 2024) rfl rfl
theorem mw_157 : Cond.code yX11_tear cX11_tear 2 (some .int) ∈ xWS := xw_mem (q := 2028) rfl rfl
theorem mw_158 : Cond.code yX11_copy cX11_copy 6 (some .int) ∈ xWS := xw_mem (q := 2036) rfl rfl
theorem mw_159 : Cond.code yX11_mean cX11_mean 7 (some .int) ∈ xWS := xw_mem (q := 2052) rfl rfl
theorem mw_160 : Cond.code yX11_text cX11_text 3 (some .int) ∈ xWS := xw_mem (q := 2060) rfl rfl
theorem mw_161 : Cond.code yX11_put cX11_put 6 (some .int) ∈ xWS := xw_mem (q := 2067) rfl rfl
theorem mw_162 : Cond.code yX11_fault cX11_fault 2 (some .int) ∈ xWS := xw_mem (q := 2071) rfl rfl
theorem mw_163 : Cond.code yX11_room cX11_room 4 (some .int) ∈ xWS := xw_mem (q := 2105) rfl rfl
theorem mw_164 : Cond.code yX11_glass cX11_glass 3 (some .int) ∈ xWS := xw_mem (q := 2117) rfl rfl
theorem mw_165 : Cond.code yX11_mark cX11_mark 5 (some .int) ∈ xWS := xw_mem (q := 2169) rfl rfl
theorem mw_166 : Cond.code yX11_habit cX11_habit 2 (some .int) ∈ xWS := xw_mem (q := 3041) rfl rfl
theorem mw_167 : Cond.code yX11_term cX11_term 3 (some .int) ∈ xWS := xw_mem (q := 3047) rfl rfl
theorem mw_168 : Cond.code yX11_step cX11_step 3 (some .int) ∈ xWS := xw_mem (q := 3059) rfl rfl
theorem mw_169 : Cond.code yX11_deed cX11_deed 3 (some .int) ∈ xWS := xw_mem (q := 3084) rfl rfl
theorem mw_170 : Cond.code yX11_broken cX11_broken 1 (some .int) ∈ xWS := xw_mem (q := 3089) rfl rfl
theorem mw_171 : Cond.code yX11_undo cX11_undo 3 (some .int) ∈ xWS := xw_mem (q := 3101) rfl rfl
theorem mw_172 : Cond.code yX11_keep cX11_keep 2 (some .int) ∈ xWS := xw_mem (q := 3105) rfl rfl
theorem mw_173 : Cond.code yX11_on cX11_on 2 (some .int) ∈ xWS := xw_mem (q := 3117) rfl rfl
theorem mw_174 : Cond.code yX11_show cX11_show 8 (some .int) ∈ xWS := xw_mem (q := 3125) rfl rfl
theorem mw_175 : Cond.code yX11_breaks cX11_breaks 8 (some .int) ∈ xWS := xw_mem (q := 3138) rfl rfl
theorem mw_176 : Cond.code yX11_alike cX11_alike 7 (some .int) ∈ xWS := xw_mem (q := 3147) rfl rfl
theorem mw_177 : Cond.code yX11_fit cX11_fit 7 (some .int) ∈ xWS := xw_mem (q := 3151) rfl rfl
theorem mw_178 : Cond.code yX11_ways cX11_ways 7 (some .int) ∈ xWS := xw_mem (q := 3158) rfl rfl
theorem mw_179 : Cond.code yX11_first cX11_first 7 (some .int) ∈ xWS := xw_mem (q := 3175) rfl rfl
theorem mw_180 : Cond.code yX11_can cX11_can 5 (some .int) ∈ xWS := xw_mem (q := 3182) rfl rfl
theorem mw_181 : Cond.code yX11_laws cX11_laws 4 (some .int) ∈ xWS := xw_mem (q := 3186) rfl rfl
theorem mw_182 : Cond.code yX11_next cX11_next 10 (some .int) ∈ xWS := xw_mem (q := 3198) rfl rfl
theorem mw_183 : Cond.code yX11_he cX11_he 7 (some .int) ∈ xWS := xw_mem (q := 3207) rfl rfl
theorem mw_184 : Cond.code yX11_keeps cX11_keeps 3 (some .int) ∈ xWS := xw_mem (q := 3211) rfl rfl
theorem mw_185 : Cond.code yX11_still cX11_still 3 (some .int) ∈ xWS := xw_mem (q := 4008) rfl rfl
theorem mw_186 : Cond.code yX11_game cX11_game 2 (some .int) ∈ xWS := xw_mem (q := 4016) rfl rfl
theorem mw_187 : Cond.code yX11_picks cX11_picks 2 (some .int) ∈ xWS := xw_mem (q := 4028) rfl rfl
theorem mw_188 : Cond.code yX11_odds cX11_odds 10 (some .int) ∈ xWS := xw_mem (q := 4032) rfl rfl
theorem mw_189 : Cond.code yX11_mid cX11_mid 8 (some .int) ∈ xWS := xw_mem (q := 4041) rfl rfl
theorem mw_190 : Cond.code yX11_lots cX11_lots 8 (some .int) ∈ xWS := xw_mem (q := 4045) rfl rfl
theorem mw_191 : Cond.code yX11_asked cX11_asked 1 (some .int) ∈ xWS := xw_mem (q := 4053) rfl rfl
theorem mw_192 : Cond.code yX11_upper cX11_upper 1 (some .long) ∈ xWS := xw_mem (q := 4057) rfl rfl
theorem mw_193 : Cond.code yX11_lower cX11_lower 1 (some .long) ∈ xWS := xw_mem (q := 4061) rfl rfl
theorem mw_194 : Cond.code yX11_count cX11_count 2 (some .int) ∈ xWS := xw_mem (q := 4065) rfl rfl
theorem mw_195 : Cond.code yX11_finding cX11_finding 1 (some .int) ∈ xWS := xw_mem (q := 4080) rfl rfl
theorem mw_196 : Cond.code yX11_findings cX11_findings 2 (some .int) ∈ xWS := xw_mem (q := 4084) rfl rfl
theorem mw_197 : Cond.code yX11_digest cX11_digest 5 (some .long) ∈ xWS := xw_mem (q := 4088) rfl rfl
theorem mw_198 : Cond.code yX11_refuse cX11_refuse 2 (some .int) ∈ xWS := xw_mem (q := 1229) rfl rfl
theorem mw_199 : Cond.code yX11_isRow cX11_isRow 1 (some .boolean) ∈ xWS := xw_mem (q := 1225) rfl rfl
theorem mw_200 : Cond.code yX11_isText cX11_isText 1 (some .boolean) ∈ xWS := xw_mem (q := 2063) rfl rfl
theorem mw_201 : Cond.code yX11_isKept cX11_isKept 1 (some .boolean) ∈ xWS := xw_mem (q := 3108) rfl rfl
theorem mw_202 : Cond.code yX11_isStep cX11_isStep 1 (some .boolean) ∈ xWS := xw_mem (q := 3021) rfl rfl
theorem mw_203 : Cond.code yX11_isGlass cX11_isGlass 2 (some .boolean) ∈ xWS := xw_mem (q := 2121) rfl rfl
theorem mw_204 : Cond.code yX11_findingOfPlace cX11_findingOfPlace 2 (some .int) ∈ xWS := xw_mem (q := 2003) rfl rfl
theorem mw_205 : Cond.code yX11_findingOfSteps cX11_findingOfSteps 3 (some .int) ∈ xWS := xw_mem (q := 3128) rfl rfl
theorem mw_206 : Cond.code yX11_findingOfPair cX11_findingOfPair 4 (some .int) ∈ xWS := xw_mem (q := 3154) rfl rfl
theorem mw_207 : Cond.code yX11_newPane cX11_newPane 2 (some (.object "LimpMirror$Pane")) ∈ xWS := xw_mem (q := 1108) rfl rfl
theorem mw_208 : Cond.code yX11_paneOf cX11_paneOf 3 (some (.object "LimpMirror$Pane")) ∈ xWS := xw_mem (q := 2129) rfl rfl
theorem mw_209 : Cond.code yX11_glassFact cX11_glassFact 3 (some .int) ∈ xWS := xw_mem (q := 2125) rfl rfl
theorem mw_210 : Cond.code yX11_noughtsAtDeeds cX11_noughtsAtDeeds 4 (some .int) ∈ xWS := xw_mem (q := 3025) rfl rfl
theorem mw_211 : Cond.code yX11_doStep cX11_doStep 5 (some .int) ∈ xWS := xw_mem (q := 3063) rfl rfl
theorem mw_212 : Cond.code yX11_glassesOf cX11_glassesOf 4 (some .int) ∈ xWS := xw_mem (q := 4069) rfl rfl
theorem mw_213 : Cond.code yX11_keptOnes cX11_keptOnes 3 (some .int) ∈ xWS := xw_mem (q := 4076) rfl rfl
theorem mw_214 : Cond.code yX11_howManyThere cX11_howManyThere 3 (some .int) ∈ xWS := xw_mem (q := 4072) rfl rfl
theorem mw_215 : Cond.code yX11_digestOf cX11_digestOf 7 (some .long) ∈ xWS := xw_mem (q := 4094) rfl rfl
theorem mw_216 : Cond.code yX11_findSets cX11_findSets 7 (some .boolean) ∈ xWS := xw_mem (q := 3162) rfl rfl
theorem mw_217 : Cond.code yX11_leastOf cX11_leastOf 2 (some .int) ∈ xWS := xw_mem (q := 3178) rfl rfl
theorem mw_218 : Cond.code yX11_firstNotShown cX11_firstNotShown 5 (some .int) ∈ xWS := xw_mem (q := 3194) rfl rfl
theorem mw_219 : Cond.code yX11_lawsOf cX11_lawsOf 5 (some .int) ∈ xWS := xw_mem (q := 3190) rfl rfl
theorem mw_220 : Cond.code yX11_mostThatShowOneThing cX11_mostThatShowOneThing 6 (some .int) ∈ xWS := xw_mem (q := 3202) rfl rfl
theorem mw_221 : Cond.code yX11_leastPick cX11_leastPick 4 (some .int) ∈ xWS := xw_mem (q := 4020) rfl rfl
theorem mw_222 : Cond.code yX11_isSafeBeforeAll cX11_isSafeBeforeAll 3 (some .boolean) ∈ xWS := xw_mem (q := 4024) rfl rfl
theorem mw_223 : Cond.code yX11_breakingOfTwelve cX11_breakingOfTwelve 8 (some .int) ∈ xWS := xw_mem (q := 4036) rfl rfl
theorem mw_224 : Cond.code yX11_tell cX11_tell 7 none ∈ xWS := xw_mem (q := 3168) rfl rfl
theorem mw_225 : Cond.code yX11_commonDivisor cX11_commonDivisor 11 (some .long) ∈ xWS := xw_mem (q := 3171) rfl rfl
theorem mw_226 : Cond.code yX12_init cX12_init 2 none ∈ xWS := xw_mem (q := 4099) rfl rfl
theorem mw_227 : Cond.initialized RX12 ∈ xWS := xw_mem (q := 1014) rfl rfl
theorem mw_228 : Cond.code yX12_in cX12_in 3 (some .boolean) ∈ xWS := xw_mem (q := 4207) rfl rfl
theorem mw_229 : Cond.code yX12_has cX12_has 2 (some .boolean) ∈ xWS := xw_mem (q := 5210) rfl rfl
theorem mw_230 : Cond.code yX12_finds cX12_finds 2 (some .int) ∈ xWS := xw_mem (q := 4211) rfl rfl
theorem mw_231 : Cond.code yX12_tells cX12_tells 2 (some .int) ∈ xWS := xw_mem (q := 4223) rfl rfl
theorem mw_232 : Cond.code yX12_tellParts cX12_tellParts 11 none ∈ xWS := xw_mem (q := 5184) rfl rfl
theorem mw_233 : Cond.code yX12_isRow cX12_isRow 1 (some .boolean) ∈ xWS := xw_mem (q := 4204) rfl rfl
theorem mw_234 : Cond.code yX12_isText cX12_isText 1 (some .boolean) ∈ xWS := xw_mem (q := 5009) rfl rfl
theorem mw_235 : Cond.code yX12_row cX12_row 4 (some .int) ∈ xWS := xw_mem (q := 4201) rfl rfl
theorem mw_236 : Cond.code yX12_wrongAt cX12_wrongAt 3 (some .int) ∈ xWS := xw_mem (q := 4219) rfl rfl
theorem mw_237 : Cond.code yX12_lay cX12_lay 6 (some .int) ∈ xWS := xw_mem (q := 4215) rfl rfl
theorem mw_238 : Cond.code yX12_at cX12_at 4 (some .int) ∈ xWS := xw_mem (q := 4227) rfl rfl
theorem mw_239 : Cond.code yX12_tear cX12_tear 2 (some .int) ∈ xWS := xw_mem (q := 4231) rfl rfl
theorem mw_240 : Cond.code yX12_isPart cX12_isPart 3 (some .boolean) ∈ xWS := xw_mem (q := 4238) rfl rfl
theorem mw_241 : Cond.code yX12_copy cX12_copy 9 (some .int) ∈ xWS := xw_mem (q := 4235) rfl rfl
theorem mw_242 : Cond.code yX12_mean cX12_mean 5 (some .int) ∈ xWS := xw_mem (q := 5002) rfl rfl
theorem mw_243 : Cond.code yX12_text cX12_text 4 (some .int) ∈ xWS := xw_mem (q := 5006) rfl rfl
theorem mw_244 : Cond.code yX12_put cX12_put 5 (some .int) ∈ xWS := xw_mem (q := 5013) rfl rfl
theorem mw_245 : Cond.code yX12_letter cX12_letter 1 (some .int) ∈ xWS := xw_mem (q := 5033) rfl rfl
theorem mw_246 : Cond.code yX12_skip cX12_skip 1 none ∈ xWS := xw_mem (q := 5029) rfl rfl
theorem mw_247 : Cond.code yX12_figure cX12_figure 3 (some .int) ∈ xWS := xw_mem (q := 5037) rfl rfl
theorem mw_248 : Cond.code yX12_kindBy cX12_kindBy 1 (some .int) ∈ xWS := xw_mem (q := 5040) rfl rfl
theorem mw_249 : Cond.code yX12_areHabits cX12_areHabits 3 (some .boolean) ∈ xWS := xw_mem (q := 5025) rfl rfl
theorem mw_250 : Cond.code yX12_isGlassItem cX12_isGlassItem 3 (some .boolean) ∈ xWS := xw_mem (q := 5044) rfl rfl
theorem mw_251 : Cond.code yX12_isTermItem cX12_isTermItem 3 (some .boolean) ∈ xWS := xw_mem (q := 5048) rfl rfl
theorem mw_252 : Cond.code yX12_isRoom cX12_isRoom 4 (some .boolean) ∈ xWS := xw_mem (q := 5021) rfl rfl
theorem mw_253 : Cond.code yX12_fault cX12_fault 2 (some .int) ∈ xWS := xw_mem (q := 5017) rfl rfl
theorem mw_254 : Cond.code yX12_room cX12_room 3 (some .int) ∈ xWS := xw_mem (q := 5052) rfl rfl
theorem mw_255 : Cond.code yX12_isGlass cX12_isGlass 2 (some .boolean) ∈ xWS := xw_mem (q := 5060) rfl rfl
theorem mw_256 : Cond.code yX12_isStep cX12_isStep 1 (some .boolean) ∈ xWS := xw_mem (q := 5097) rfl rfl
theorem mw_257 : Cond.code yX12_mirrored cX12_mirrored 1 (some .int) ∈ xWS := xw_mem (q := 5079) rfl rfl
theorem mw_258 : Cond.code yX12_showsBy cX12_showsBy 9 (some .int) ∈ xWS := xw_mem (q := 5076) rfl rfl
theorem mw_259 : Cond.code yX12_showsOf cX12_showsOf 4 (some .int) ∈ xWS := xw_mem (q := 5072) rfl rfl
theorem mw_260 : Cond.code yX12_termBy cX12_termBy 4 (some .int) ∈ xWS := xw_mem (q := 5083) rfl rfl
theorem mw_261 : Cond.code yX12_shownOf cX12_shownOf 2 (some .int) ∈ xWS := xw_mem (q := 5068) rfl rfl
theorem mw_262 : Cond.code yX12_brokenBy cX12_brokenBy 2 (some .int) ∈ xWS := xw_mem (q := 5064) rfl rfl
theorem mw_263 : Cond.code yX12_isOf cX12_isOf 2 (some .boolean) ∈ xWS := xw_mem (q := 5090) rfl rfl
theorem mw_264 : Cond.code yX12_glass cX12_glass 5 (some .int) ∈ xWS := xw_mem (q := 5056) rfl rfl
theorem mw_265 : Cond.code yX12_mark cX12_mark 5 (some .int) ∈ xWS := xw_mem (q := 5087) rfl rfl
theorem mw_266 : Cond.code yX12_habit cX12_habit 2 (some .int) ∈ xWS := xw_mem (q := 5094) rfl rfl
theorem mw_267 : Cond.code yX12_term cX12_term 3 (some .int) ∈ xWS := xw_mem (q := 5101) rfl rfl
theorem mw_268 : Cond.code yX12_doStep cX12_doStep 3 (some .int) ∈ xWS := xw_mem (q := 5109) rfl rfl
theorem mw_269 : Cond.code yX12_step cX12_step 3 (some .int) ∈ xWS := xw_mem (q := 5105) rfl rfl
theorem mw_270 : Cond.code yX12_deed cX12_deed 3 (some .int) ∈ xWS := xw_mem (q := 5113) rfl rfl
theorem mw_271 : Cond.code yX12_brokenMany cX12_brokenMany 3 (some .int) ∈ xWS := xw_mem (q := 5121) rfl rfl
theorem mw_272 : Cond.code yX12_broken cX12_broken 3 (some .int) ∈ xWS := xw_mem (q := 5117) rfl rfl
theorem mw_273 : Cond.code yX12_undo cX12_undo 3 (some .int) ∈ xWS := xw_mem (q := 5125) rfl rfl
theorem mw_274 : Cond.code yX12_keep cX12_keep 3 (some .int) ∈ xWS := xw_mem (q := 5129) rfl rfl
theorem mw_275 : Cond.code yX12_on cX12_on 3 (some .int) ∈ xWS := xw_mem (q := 5133) rfl rfl
theorem mw_276 : Cond.code yX12_takeOut cX12_takeOut 6 (some .int) ∈ xWS := xw_mem (q := 5141) rfl rfl
theorem mw_277 : Cond.code yX12_takeTwo cX12_takeTwo 4 (some .int) ∈ xWS := xw_mem (q := 5165) rfl rfl
theorem mw_278 : Cond.code yX12_layRow cX12_layRow 5 (some .int) ∈ xWS := xw_mem (q := 5145) rfl rfl
theorem mw_279 : Cond.code yX12_show cX12_show 7 (some .int) ∈ xWS := xw_mem (q := 5137) rfl rfl
theorem mw_280 : Cond.code yX12_breaksAt cX12_breaksAt 3 (some .boolean) ∈ xWS := xw_mem (q := 5153) rfl rfl
theorem mw_281 : Cond.code yX12_breaks cX12_breaks 8 (some .int) ∈ xWS := xw_mem (q := 5149) rfl rfl
theorem mw_282 : Cond.code yX12_alike cX12_alike 6 (some .int) ∈ xWS := xw_mem (q := 5157) rfl rfl
theorem mw_283 : Cond.code yX12_fit cX12_fit 7 (some .int) ∈ xWS := xw_mem (q := 5161) rfl rfl
theorem mw_284 : Cond.code yX12_rowsOf cX12_rowsOf 3 (some .int) ∈ xWS := xw_mem (q := 5172) rfl rfl
theorem mw_285 : Cond.code yX12_layDoings cX12_layDoings 5 none ∈ xWS := xw_mem (q := 5176) rfl rfl
theorem mw_286 : Cond.code yX12_shows cX12_shows 5 (some .boolean) ∈ xWS := xw_mem (q := 5180) rfl rfl
theorem mw_287 : Cond.code yX12_ways cX12_ways 7 (some .int) ∈ xWS := xw_mem (q := 5169) rfl rfl
theorem mw_288 : Cond.code yX12_first cX12_first 7 (some .int) ∈ xWS := xw_mem (q := 5188) rfl rfl
theorem mw_289 : Cond.code yX12_can cX12_can 8 (some .int) ∈ xWS := xw_mem (q := 5192) rfl rfl
theorem mw_290 : Cond.code yX12_lawsOf cX12_lawsOf 6 (some .int) ∈ xWS := xw_mem (q := 5200) rfl rfl
theorem mw_291 : Cond.code yX12_laws cX12_laws 4 (some .int) ∈ xWS := xw_mem (q := 5196) rfl rfl
theorem mw_292 : Cond.code yX12_bits cX12_bits 3 (some .int) ∈ xWS := xw_mem (q := 5207) rfl rfl
theorem mw_293 : Cond.code yX12_next cX12_next 13 (some .int) ∈ xWS := xw_mem (q := 5204) rfl rfl
theorem mw_294 : Cond.code yX12_he cX12_he 9 (some .int) ∈ xWS := xw_mem (q := 5214) rfl rfl
theorem mw_295 : Cond.code yX12_breaksNone cX12_breaksNone 5 (some .boolean) ∈ xWS := xw_mem (q := 5222) rfl rfl
theorem mw_296 : Cond.code yX12_keeps cX12_keeps 6 (some .int) ∈ xWS := xw_mem (q := 5218) rfl rfl
theorem mw_297 : Cond.code yX12_still cX12_still 7 (some .int) ∈ xWS := xw_mem (q := 5226) rfl rfl
theorem mw_298 : Cond.code yX12_isSafe cX12_isSafe 4 (some .boolean) ∈ xWS := xw_mem (q := 5238) rfl rfl
theorem mw_299 : Cond.code yX12_gameBy cX12_gameBy 5 (some .int) ∈ xWS := xw_mem (q := 5234) rfl rfl
theorem mw_300 : Cond.code yX12_game cX12_game 2 (some .int) ∈ xWS := xw_mem (q := 5230) rfl rfl
theorem mw_301 : Cond.code yX12_picks cX12_picks 2 (some .int) ∈ xWS := xw_mem (q := 6002) rfl rfl
theorem mw_302 : Cond.code yX12_odds cX12_odds 10 (some .int) ∈ xWS := xw_mem (q := 6006) rfl rfl
theorem mw_303 : Cond.code yX12_mid cX12_mid 8 (some .int) ∈ xWS := xw_mem (q := 6011) rfl rfl
theorem mw_304 : Cond.code yX12_lots cX12_lots 7 (some .int) ∈ xWS := xw_mem (q := 6015) rfl rfl
theorem mw_305 : Cond.code yX12_asked cX12_asked 1 (some .int) ∈ xWS := xw_mem (q := 6024) rfl rfl
theorem mw_306 : Cond.code yX12_upper cX12_upper 1 (some .long) ∈ xWS := xw_mem (q := 6028) rfl rfl
theorem mw_307 : Cond.code yX12_lower cX12_lower 1 (some .long) ∈ xWS := xw_mem (q := 6032) rfl rfl
theorem mw_308 : Cond.code yX12_kindsOf cX12_kindsOf 4 (some .int) ∈ xWS := xw_mem (q := 6044) rfl rfl
theorem mw_309 : Cond.code yX12_thereOf cX12_thereOf 4 (some .int) ∈ xWS := xw_mem (q := 6047) rfl rfl
theorem mw_310 : Cond.code yX12_countOf cX12_countOf 2 (some .int) ∈ xWS := xw_mem (q := 6040) rfl rfl
theorem mw_311 : Cond.code yX12_count cX12_count 2 (some .int) ∈ xWS := xw_mem (q := 6036) rfl rfl
theorem mw_312 : Cond.code yX12_finding cX12_finding 1 (some .int) ∈ xWS := xw_mem (q := 6051) rfl rfl
theorem mw_313 : Cond.code yX12_findings cX12_findings 2 (some .int) ∈ xWS := xw_mem (q := 6055) rfl rfl
theorem mw_314 : Cond.code yX12_add cX12_add 2 none ∈ xWS := xw_mem (q := 6064) rfl rfl
theorem mw_315 : Cond.code yX12_digest cX12_digest 5 (some .long) ∈ xWS := xw_mem (q := 6059) rfl rfl
theorem mw_316 : Cond.code yJ6_bitCount_0f7a4 cJ6_bitCount_0f7a4 1 (some .int) ∈ xWS := xw_mem (q := 3032) rfl rfl
theorem mw_317 : Cond.initialized RJ6 ∈ xWS := xw_mem (q := 1016) rfl rfl
theorem mw_318 : Cond.instanceMethod yX3_init ∈ xWS := xw_mem (q := 1035) rfl rfl
theorem mw_319 : Cond.methodLink RX0 15 Lib.Math.max.name ∈ xWS := xw_mem (q := 1074) rfl rfl
theorem mw_320 : Cond.static Lib.Math.max.name ∈ xWS := xw_mem (q := 1075) rfl rfl
theorem mw_321 : Cond.initialized "java/lang/Math" ∈ xWS := xw_mem (q := 1006) rfl rfl
theorem mw_322 : Cond.code Lib.Math.max.name Lib.Math.max.code 2 (some .int) ∈ xWS := xw_mem (q := 1076) rfl rfl
theorem mw_323 : Cond.instanceMethod yX0_has ∈ xWS := xw_mem (q := 2009) rfl rfl
theorem mw_324 : Cond.methodLink RX0 25 yX0_has ∈ xWS := xw_mem (q := 2016) rfl rfl
theorem mw_325 : Cond.selects RX0 yX0_has yX0_has ∈ xWS := xw_mem (q := 2010) rfl rfl
theorem mw_326 : Cond.methodLink RX0 29 Lib.Math.min.name ∈ xWS := xw_mem (q := 1234) rfl rfl
theorem mw_327 : Cond.static Lib.Math.min.name ∈ xWS := xw_mem (q := 1235) rfl rfl
theorem mw_328 : Cond.code Lib.Math.min.name Lib.Math.min.code 2 (some .int) ∈ xWS := xw_mem (q := 1236) rfl rfl
theorem mw_329 : Cond.instanceMethod yX0_hasPlaces ∈ xWS := xw_mem (q := 2038) rfl rfl
theorem mw_330 : Cond.methodLink RX0 32 yX0_hasPlaces ∈ xWS := xw_mem (q := 2045) rfl rfl
theorem mw_331 : Cond.selects RX0 yX0_hasPlaces yX0_hasPlaces ∈ xWS := xw_mem (q := 2039) rfl rfl
theorem mw_332 : Cond.methodLink RX0 36 arraycopyName ∈ xWS := xw_mem (q := 2046) rfl rfl
theorem mw_333 : Cond.native arraycopyName ∈ xWS := xw_mem (q := 2048) rfl rfl
theorem mw_334 : Cond.static arraycopyName ∈ xWS := xw_mem (q := 2047) rfl rfl
theorem mw_335 : Cond.initialized "java/lang/System" ∈ xWS := xw_mem (q := 1015) rfl rfl
theorem mw_336 : Cond.instanceMethod yX0_open ∈ xWS := xw_mem (q := 1231) rfl rfl
theorem mw_337 : Cond.methodLink RX0 42 yX0_open ∈ xWS := xw_mem (q := 3133) rfl rfl
theorem mw_338 : Cond.selects RX0 yX0_open yX0_open ∈ xWS := xw_mem (q := 1232) rfl rfl
theorem mw_339 : Cond.instanceMethod yX0_take ∈ xWS := xw_mem (q := 2042) rfl rfl
theorem mw_340 : Cond.methodLink RX0 46 yX0_take ∈ xWS := xw_mem (q := 3134) rfl rfl
theorem mw_341 : Cond.selects RX0 yX0_take yX0_take ∈ xWS := xw_mem (q := 2043) rfl rfl
theorem mw_342 : Cond.instanceMethod yX0_get ∈ xWS := xw_mem (q := 2013) rfl rfl
theorem mw_343 : Cond.methodLink RX0 50 yX0_get ∈ xWS := xw_mem (q := 2231) rfl rfl
theorem mw_344 : Cond.selects RX0 yX0_get yX0_get ∈ xWS := xw_mem (q := 2014) rfl rfl
theorem mw_345 : Cond.methodLink RX1 3 objectInit ∈ xWS := xw_mem (q := 1089) rfl rfl
theorem mw_346 : Cond.instanceMethod objectInit ∈ xWS := xw_mem (q := 1023) rfl rfl
theorem mw_347 : Cond.code objectInit ⟨#[0xb1]⟩ 1 none ∈ xWS := xw_mem (q := 1024) rfl rfl
theorem mw_348 : Cond.methodLink RX1 28 Lib.Math.min.name ∈ xWS := xw_mem (q := 3216) rfl rfl
theorem mw_349 : Cond.methodLink RX1 34 yX1_heirOf ∈ xWS := xw_mem (q := 3217) rfl rfl
theorem mw_350 : Cond.static yX1_heirOf ∈ xWS := xw_mem (q := 3218) rfl rfl
theorem mw_351 : Cond.instanceMethod yX1_weighStep ∈ xWS := xw_mem (q := 3223) rfl rfl
theorem mw_352 : Cond.methodLink RX1 38 yX1_weighStep ∈ xWS := xw_mem (q := 3221) rfl rfl
theorem mw_353 : Cond.selects RX1 yX1_weighStep yX1_weighStep ∈ xWS := xw_mem (q := 15) rfl rfl
theorem mw_354 : Cond.methodLink RX1 42 yX1_isHead ∈ xWS := xw_mem (q := 3227) rfl rfl
theorem mw_355 : Cond.static yX1_isHead ∈ xWS := xw_mem (q := 3228) rfl rfl
theorem mw_356 : Cond.instanceMethod yX1_addChain ∈ xWS := xw_mem (q := 3235) rfl rfl
theorem mw_357 : Cond.methodLink RX1 46 yX1_addChain ∈ xWS := xw_mem (q := 3233) rfl rfl
theorem mw_358 : Cond.selects RX1 yX1_addChain yX1_addChain ∈ xWS := xw_mem (q := 16) rfl rfl
theorem mw_359 : Cond.instanceMethod yX7_source ∈ xWS := xw_mem (q := 2195) rfl rfl
theorem mw_360 : Cond.instanceMethod yX4_source ∈ xWS := xw_mem (q := 2199) rfl rfl
theorem mw_361 : Cond.methodLink RX1 50 yX7_source ∈ xWS := xw_mem (q := 3220) rfl rfl
theorem mw_362 : Cond.sameMethod "LimpMirror$Pane" "LimpMirror$Pane" "source" "(I)I" ∈ xWS := xw_mem (q := 2197) rfl rfl
theorem mw_363 : Cond.selects RX4 ⟨"LimpMirror$Pane", "source", "(I)I"⟩ yX4_source ∈ xWS := xw_mem (q := 2198) rfl rfl
theorem mw_364 : Cond.instanceMethod yX5_source ∈ xWS := xw_mem (q := 2202) rfl rfl
theorem mw_365 : Cond.selects RX5 ⟨"LimpMirror$Pane", "source", "(I)I"⟩ yX5_source ∈ xWS := xw_mem (q := 2201) rfl rfl
theorem mw_366 : Cond.instanceMethod yX6_source ∈ xWS := xw_mem (q := 2210) rfl rfl
theorem mw_367 : Cond.selects RX6 ⟨"LimpMirror$Pane", "source", "(I)I"⟩ yX6_source ∈ xWS := xw_mem (q := 2209) rfl rfl
theorem mw_368 : Cond.selects RX7 yX7_source yX7_source ∈ xWS := xw_mem (q := 2196) rfl rfl
theorem mw_369 : Cond.instanceMethod yX9_source ∈ xWS := xw_mem (q := 2217) rfl rfl
theorem mw_370 : Cond.selects RX9 ⟨"LimpMirror$Pane", "source", "(I)I"⟩ yX9_source ∈ xWS := xw_mem (q := 2216) rfl rfl
theorem mw_371 : Cond.selects RX10 ⟨"LimpMirror$Pane", "source", "(I)I"⟩ yX7_source ∈ xWS := xw_mem (q := 2223) rfl rfl
theorem mw_372 : Cond.instanceMethod yX8_seen ∈ xWS := xw_mem (q := 2236) rfl rfl
theorem mw_373 : Cond.methodLink RX1 56 yX8_seen ∈ xWS := xw_mem (q := 3225) rfl rfl
theorem mw_374 : Cond.selects RX8 yX8_seen yX8_seen ∈ xWS := xw_mem (q := 2237) rfl rfl
theorem mw_375 : Cond.instanceMethod yX8_isBroken ∈ xWS := xw_mem (q := 3140) rfl rfl
theorem mw_376 : Cond.methodLink RX1 61 yX8_isBroken ∈ xWS := xw_mem (q := 3226) rfl rfl
theorem mw_377 : Cond.selects RX8 yX8_isBroken yX8_isBroken ∈ xWS := xw_mem (q := 3141) rfl rfl
theorem mw_378 : Cond.methodLink RX1 65 yX1_shownAtHead ∈ xWS := xw_mem (q := 3230) rfl rfl
theorem mw_379 : Cond.static yX1_shownAtHead ∈ xWS := xw_mem (q := 3231) rfl rfl
theorem mw_380 : Cond.instanceMethod yX2_write ∈ xWS := xw_mem (q := 3070) rfl rfl
theorem mw_381 : Cond.methodLink RX2 19 yX2_write ∈ xWS := xw_mem (q := 3068) rfl rfl
theorem mw_382 : Cond.selects RX2 yX2_write yX2_write ∈ xWS := xw_mem (q := 9) rfl rfl
theorem mw_383 : Cond.instanceMethod yX2_see ∈ xWS := xw_mem (q := 3073) rfl rfl
theorem mw_384 : Cond.methodLink RX2 23 yX2_see ∈ xWS := xw_mem (q := 3072) rfl rfl
theorem mw_385 : Cond.selects RX2 yX2_see yX2_see ∈ xWS := xw_mem (q := 3074) rfl rfl
theorem mw_386 : Cond.methodLink RX2 26 arraycopyName ∈ xWS := xw_mem (q := 3113) rfl rfl
theorem mw_387 : Cond.instanceMethod yX2_fact ∈ xWS := xw_mem (q := 2159) rfl rfl
theorem mw_388 : Cond.methodLink RX2 32 yX2_fact ∈ xWS := xw_mem (q := 2158) rfl rfl
theorem mw_389 : Cond.selects RX2 yX2_fact yX2_fact ∈ xWS := xw_mem (q := 2160) rfl rfl
theorem mw_390 : Cond.methodLink RX3 1 objectInit ∈ xWS := xw_mem (q := 1037) rfl rfl
theorem mw_391 : Cond.methodLink RX4 1 yX9_init ∈ xWS := xw_mem (q := 1157) rfl rfl
theorem mw_392 : Cond.instanceMethod yX9_init ∈ xWS := xw_mem (q := 1128) rfl rfl
theorem mw_393 : Cond.methodLink RX4 7 ⟨"LimpMirror$Friend", "isOdd", "(I)Z"⟩ ∈ xWS := xw_mem (q := 3006) rfl rfl
theorem mw_394 : Cond.sameMethod "LimpMirror$Friend" "LimpMirror$Pane" "isOdd" "(I)Z" ∈ xWS := xw_mem (q := 3007) rfl rfl
theorem mw_395 : Cond.static yX7_isOdd ∈ xWS := xw_mem (q := 2221) rfl rfl
theorem mw_396 : Cond.methodLink RX5 3 yX7_init ∈ xWS := xw_mem (q := 1114) rfl rfl
theorem mw_397 : Cond.instanceMethod yX7_init ∈ xWS := xw_mem (q := 1115) rfl rfl
theorem mw_398 : Cond.instanceMethod yX7_delay ∈ xWS := xw_mem (q := 2145) rfl rfl
theorem mw_399 : Cond.methodLink RX5 9 ⟨"LimpMirror$Late", "delay", "()I"⟩ ∈ xWS := xw_mem (q := 2204) rfl rfl
theorem mw_400 : Cond.sameMethod "LimpMirror$Late" "LimpMirror$Pane" "delay" "()I" ∈ xWS := xw_mem (q := 2205) rfl rfl
theorem mw_401 : Cond.selects RX5 ⟨"LimpMirror$Late", "delay", "()I"⟩ yX7_delay ∈ xWS := xw_mem (q := 2207) rfl rfl
theorem mw_402 : Cond.selects RX6 ⟨"LimpMirror$Late", "delay", "()I"⟩ yX7_delay ∈ xWS := xw_mem (q := 2208) rfl rfl
theorem mw_403 : Cond.methodLink RX5 15 yX7_isOf ∈ xWS := xw_mem (q := 2185) rfl rfl
theorem mw_404 : Cond.sameMethod "LimpMirror$Pane" "LimpMirror$Pane" "isOf" "(I)Z" ∈ xWS := xw_mem (q := 2177) rfl rfl
theorem mw_405 : Cond.superclass RX5 RX7 ∈ xWS := xw_mem (q := 1124) rfl rfl
theorem mw_406 : Cond.instanceMethod yX7_isOf ∈ xWS := xw_mem (q := 2175) rfl rfl
theorem mw_407 : Cond.methodLink RX6 3 yX5_init ∈ xWS := xw_mem (q := 1148) rfl rfl
theorem mw_408 : Cond.instanceMethod yX5_init ∈ xWS := xw_mem (q := 1112) rfl rfl
theorem mw_409 : Cond.methodLink RX6 9 yX6_placesToLimp ∈ xWS := xw_mem (q := 2212) rfl rfl
theorem mw_410 : Cond.static yX6_placesToLimp ∈ xWS := xw_mem (q := 2213) rfl rfl
theorem mw_411 : Cond.methodLink RX6 15 yX5_source ∈ xWS := xw_mem (q := 2215) rfl rfl
theorem mw_412 : Cond.sameMethod "LimpMirror$Late" "LimpMirror$Late" "source" "(I)I" ∈ xWS := xw_mem (q := 6066) rfl rfl
theorem mw_413 : Cond.superclass RX6 RX5 ∈ xWS := xw_mem (q := 1151) rfl rfl
theorem mw_414 : Cond.methodLink RX7 3 objectInit ∈ xWS := xw_mem (q := 1117) rfl rfl
theorem mw_415 : Cond.methodLink RX8 3 objectInit ∈ xWS := xw_mem (q := 1052) rfl rfl
theorem mw_416 : Cond.static yX11_isStep ∈ xWS := xw_mem (q := 3020) rfl rfl
theorem mw_417 : Cond.instanceMethod yX7_thinks ∈ xWS := xw_mem (q := 3000) rfl rfl
theorem mw_418 : Cond.instanceMethod yX4_thinks ∈ xWS := xw_mem (q := 3004) rfl rfl
theorem mw_419 : Cond.methodLink RX8 32 yX7_thinks ∈ xWS := xw_mem (q := 2239) rfl rfl
theorem mw_420 : Cond.sameMethod "LimpMirror$Pane" "LimpMirror$Pane" "thinks" "(I)Z" ∈ xWS := xw_mem (q := 3002) rfl rfl
theorem mw_421 : Cond.selects RX4 ⟨"LimpMirror$Pane", "thinks", "(I)Z"⟩ yX4_thinks ∈ xWS := xw_mem (q := 3003) rfl rfl
theorem mw_422 : Cond.selects RX5 ⟨"LimpMirror$Pane", "thinks", "(I)Z"⟩ yX7_thinks ∈ xWS := xw_mem (q := 3008) rfl rfl
theorem mw_423 : Cond.selects RX6 ⟨"LimpMirror$Pane", "thinks", "(I)Z"⟩ yX7_thinks ∈ xWS := xw_mem (q := 3009) rfl rfl
theorem mw_424 : Cond.selects RX7 yX7_thinks yX7_thinks ∈ xWS := xw_mem (q := 3001) rfl rfl
theorem mw_425 : Cond.selects RX9 ⟨"LimpMirror$Pane", "thinks", "(I)Z"⟩ yX7_thinks ∈ xWS := xw_mem (q := 3010) rfl rfl
theorem mw_426 : Cond.instanceMethod yX10_thinks ∈ xWS := xw_mem (q := 3012) rfl rfl
theorem mw_427 : Cond.selects RX10 ⟨"LimpMirror$Pane", "thinks", "(I)Z"⟩ yX10_thinks ∈ xWS := xw_mem (q := 3011) rfl rfl
theorem mw_428 : Cond.instanceMethod yX8_thought ∈ xWS := xw_mem (q := 3016) rfl rfl
theorem mw_429 : Cond.methodLink RX8 37 yX8_thought ∈ xWS := xw_mem (q := 3015) rfl rfl
theorem mw_430 : Cond.selects RX8 yX8_thought yX8_thought ∈ xWS := xw_mem (q := 3017) rfl rfl
theorem mw_431 : Cond.methodLink RX8 41 yX7_source ∈ xWS := xw_mem (q := 2194) rfl rfl
theorem mw_432 : Cond.instanceMethod yX0_stepAt ∈ xWS := xw_mem (q := 2229) rfl rfl
theorem mw_433 : Cond.methodLink RX8 44 ⟨"LimpMirror$Doings", "stepAt", "(I)I"⟩ ∈ xWS := xw_mem (q := 2225) rfl rfl
theorem mw_434 : Cond.sameMethod "LimpMirror$Doings" "LimpMirror$Doings" "stepAt" "(I)I" ∈ xWS := xw_mem (q := 2227) rfl rfl
theorem mw_435 : Cond.selects RX0 ⟨"LimpMirror$Doings", "stepAt", "(I)I"⟩ yX0_stepAt ∈ xWS := xw_mem (q := 2228) rfl rfl
theorem mw_436 : Cond.instanceMethod yX2_stepAt ∈ xWS := xw_mem (q := 2233) rfl rfl
theorem mw_437 : Cond.selects RX2 ⟨"LimpMirror$Doings", "stepAt", "(I)I"⟩ yX2_stepAt ∈ xWS := xw_mem (q := 2232) rfl rfl
theorem mw_438 : Cond.methodLink RX8 49 yX8_seen ∈ xWS := xw_mem (q := 2235) rfl rfl
theorem mw_439 : Cond.instanceMethod yX8_firstBroken ∈ xWS := xw_mem (q := 3077) rfl rfl
theorem mw_440 : Cond.methodLink RX8 53 yX8_firstBroken ∈ xWS := xw_mem (q := 3143) rfl rfl
theorem mw_441 : Cond.selects RX8 yX8_firstBroken yX8_firstBroken ∈ xWS := xw_mem (q := 3078) rfl rfl
theorem mw_442 : Cond.methodLink RX8 57 yX8_afterBlanks ∈ xWS := xw_mem (q := 2076) rfl rfl
theorem mw_443 : Cond.static yX8_afterBlanks ∈ xWS := xw_mem (q := 2077) rfl rfl
theorem mw_444 : Cond.instanceMethod yX0_size ∈ xWS := xw_mem (q := 2054) rfl rfl
theorem mw_445 : Cond.methodLink RX8 61 yX0_size ∈ xWS := xw_mem (q := 2079) rfl rfl
theorem mw_446 : Cond.selects RX0 yX0_size yX0_size ∈ xWS := xw_mem (q := 2055) rfl rfl
theorem mw_447 : Cond.methodLink RX8 67 yX0_get ∈ xWS := xw_mem (q := 2080) rfl rfl
theorem mw_448 : Cond.methodLink RX8 70 yX8_isFigure ∈ xWS := xw_mem (q := 2081) rfl rfl
theorem mw_449 : Cond.static yX8_isFigure ∈ xWS := xw_mem (q := 2082) rfl rfl
theorem mw_450 : Cond.instanceMethod yX8_readItems ∈ xWS := xw_mem (q := 2087) rfl rfl
theorem mw_451 : Cond.methodLink RX8 74 yX8_readItems ∈ xWS := xw_mem (q := 2085) rfl rfl
theorem mw_452 : Cond.selects RX8 yX8_readItems yX8_readItems ∈ xWS := xw_mem (q := 1) rfl rfl
theorem mw_453 : Cond.instanceMethod yX8_readTerm ∈ xWS := xw_mem (q := 2091) rfl rfl
theorem mw_454 : Cond.methodLink RX8 77 yX8_readTerm ∈ xWS := xw_mem (q := 2089) rfl rfl
theorem mw_455 : Cond.selects RX8 yX8_readTerm yX8_readTerm ∈ xWS := xw_mem (q := 2) rfl rfl
theorem mw_456 : Cond.instanceMethod yX8_readGlass ∈ xWS := xw_mem (q := 2095) rfl rfl
theorem mw_457 : Cond.methodLink RX8 80 yX8_readGlass ∈ xWS := xw_mem (q := 2093) rfl rfl
theorem mw_458 : Cond.selects RX8 yX8_readGlass yX8_readGlass ∈ xWS := xw_mem (q := 3) rfl rfl
theorem mw_459 : Cond.methodLink RX8 83 yX8_kindOf ∈ xWS := xw_mem (q := 2097) rfl rfl
theorem mw_460 : Cond.static yX8_kindOf ∈ xWS := xw_mem (q := 2098) rfl rfl
theorem mw_461 : Cond.methodLink RX8 89 yX0_has ∈ xWS := xw_mem (q := 2084) rfl rfl
theorem mw_462 : Cond.methodLink RX9 3 yX7_init ∈ xWS := xw_mem (q := 1130) rfl rfl
theorem mw_463 : Cond.methodLink RX9 9 ⟨"LimpMirror$Thin", "isOdd", "(I)Z"⟩ ∈ xWS := xw_mem (q := 2219) rfl rfl
theorem mw_464 : Cond.sameMethod "LimpMirror$Thin" "LimpMirror$Pane" "isOdd" "(I)Z" ∈ xWS := xw_mem (q := 2220) rfl rfl
theorem mw_465 : Cond.methodLink RX9 15 yX7_isOf ∈ xWS := xw_mem (q := 2181) rfl rfl
theorem mw_466 : Cond.superclass RX9 RX7 ∈ xWS := xw_mem (q := 1133) rfl rfl
theorem mw_467 : Cond.methodLink RX10 1 yX7_init ∈ xWS := xw_mem (q := 1139) rfl rfl
theorem mw_468 : Cond.methodLink RX11 1 objectInit ∈ xWS := xw_mem (q := 1022) rfl rfl
theorem mw_469 : Cond.instanceMethod yX2_init ∈ xWS := xw_mem (q := 1032) rfl rfl
theorem mw_470 : Cond.instanceMethod yX8_init ∈ xWS := xw_mem (q := 1050) rfl rfl
theorem mw_471 : Cond.methodLink RX11 45 yX0_init ∈ xWS := xw_mem (q := 1070) rfl rfl
theorem mw_472 : Cond.instanceMethod yX0_init ∈ xWS := xw_mem (q := 1071) rfl rfl
theorem mw_473 : Cond.instanceMethod yX1_init ∈ xWS := xw_mem (q := 1087) rfl rfl
theorem mw_474 : Cond.methodLink RX11 83 yX11_newPane ∈ xWS := xw_mem (q := 1106) rfl rfl
theorem mw_475 : Cond.static yX11_newPane ∈ xWS := xw_mem (q := 1107) rfl rfl
theorem mw_476 : Cond.instanceMethod yX2_drop ∈ xWS := xw_mem (q := 1167) rfl rfl
theorem mw_477 : Cond.methodLink RX11 87 yX2_drop ∈ xWS := xw_mem (q := 1166) rfl rfl
theorem mw_478 : Cond.selects RX2 yX2_drop yX2_drop ∈ xWS := xw_mem (q := 1168) rfl rfl
theorem mw_479 : Cond.methodLink RX11 90 yX11_isRow ∈ xWS := xw_mem (q := 1223) rfl rfl
theorem mw_480 : Cond.static yX11_isRow ∈ xWS := xw_mem (q := 1224) rfl rfl
theorem mw_481 : Cond.instanceMethod yX11_refuse ∈ xWS := xw_mem (q := 1228) rfl rfl
theorem mw_482 : Cond.methodLink RX11 94 yX11_refuse ∈ xWS := xw_mem (q := 1226) rfl rfl
theorem mw_483 : Cond.selects RX11 yX11_refuse yX11_refuse ∈ xWS := xw_mem (q := 0) rfl rfl
theorem mw_484 : Cond.methodLink RX11 98 yX0_open ∈ xWS := xw_mem (q := 1230) rfl rfl
theorem mw_485 : Cond.methodLink RX11 102 yX11_findingOfPlace ∈ xWS := xw_mem (q := 2001) rfl rfl
theorem mw_486 : Cond.static yX11_findingOfPlace ∈ xWS := xw_mem (q := 2002) rfl rfl
theorem mw_487 : Cond.methodLink RX11 106 yX0_get ∈ xWS := xw_mem (q := 2012) rfl rfl
theorem mw_488 : Cond.instanceMethod yX0_set ∈ xWS := xw_mem (q := 2018) rfl rfl
theorem mw_489 : Cond.methodLink RX11 109 yX0_set ∈ xWS := xw_mem (q := 2017) rfl rfl
theorem mw_490 : Cond.selects RX0 yX0_set yX0_set ∈ xWS := xw_mem (q := 2019) rfl rfl
theorem mw_491 : Cond.instanceMethod yX0_isMissing ∈ xWS := xw_mem (q := 2005) rfl rfl
theorem mw_492 : Cond.methodLink RX11 112 yX0_isMissing ∈ xWS := xw_mem (q := 2004) rfl rfl
theorem mw_493 : Cond.selects RX0 yX0_isMissing yX0_isMissing ∈ xWS := xw_mem (q := 2006) rfl rfl
theorem mw_494 : Cond.instanceMethod yX0_drop ∈ xWS := xw_mem (q := 2030) rfl rfl
theorem mw_495 : Cond.methodLink RX11 116 yX0_drop ∈ xWS := xw_mem (q := 2029) rfl rfl
theorem mw_496 : Cond.selects RX0 yX0_drop yX0_drop ∈ xWS := xw_mem (q := 2031) rfl rfl
theorem mw_497 : Cond.methodLink RX11 117 yX0_hasPlaces ∈ xWS := xw_mem (q := 2037) rfl rfl
theorem mw_498 : Cond.methodLink RX11 121 yX0_take ∈ xWS := xw_mem (q := 2041) rfl rfl
theorem mw_499 : Cond.methodLink RX11 125 yX0_size ∈ xWS := xw_mem (q := 2053) rfl rfl
theorem mw_500 : Cond.methodLink RX11 129 yX11_isText ∈ xWS := xw_mem (q := 2061) rfl rfl
theorem mw_501 : Cond.static yX11_isText ∈ xWS := xw_mem (q := 2062) rfl rfl
theorem mw_502 : Cond.instanceMethod yX8_read ∈ xWS := xw_mem (q := 2073) rfl rfl
theorem mw_503 : Cond.methodLink RX11 132 yX8_read ∈ xWS := xw_mem (q := 2072) rfl rfl
theorem mw_504 : Cond.selects RX8 yX8_read yX8_read ∈ xWS := xw_mem (q := 2074) rfl rfl
theorem mw_505 : Cond.instanceMethod yX2_cutTo ∈ xWS := xw_mem (q := 2107) rfl rfl
theorem mw_506 : Cond.methodLink RX11 136 yX2_cutTo ∈ xWS := xw_mem (q := 2106) rfl rfl
theorem mw_507 : Cond.selects RX2 yX2_cutTo yX2_cutTo ∈ xWS := xw_mem (q := 2108) rfl rfl
theorem mw_508 : Cond.instanceMethod yX8_glasses ∈ xWS := xw_mem (q := 2111) rfl rfl
theorem mw_509 : Cond.methodLink RX11 139 yX8_glasses ∈ xWS := xw_mem (q := 2110) rfl rfl
theorem mw_510 : Cond.selects RX8 yX8_glasses yX8_glasses ∈ xWS := xw_mem (q := 2112) rfl rfl
theorem mw_511 : Cond.instanceMethod yX11_isGlass ∈ xWS := xw_mem (q := 2120) rfl rfl
theorem mw_512 : Cond.methodLink RX11 142 yX11_isGlass ∈ xWS := xw_mem (q := 2118) rfl rfl
theorem mw_513 : Cond.selects RX11 yX11_isGlass yX11_isGlass ∈ xWS := xw_mem (q := 4) rfl rfl
theorem mw_514 : Cond.instanceMethod yX11_glassFact ∈ xWS := xw_mem (q := 2124) rfl rfl
theorem mw_515 : Cond.methodLink RX11 145 yX11_glassFact ∈ xWS := xw_mem (q := 2122) rfl rfl
theorem mw_516 : Cond.selects RX11 yX11_glassFact yX11_glassFact ∈ xWS := xw_mem (q := 5) rfl rfl
theorem mw_517 : Cond.instanceMethod yX11_paneOf ∈ xWS := xw_mem (q := 2128) rfl rfl
theorem mw_518 : Cond.methodLink RX11 149 yX11_paneOf ∈ xWS := xw_mem (q := 2126) rfl rfl
theorem mw_519 : Cond.selects RX11 yX11_paneOf yX11_paneOf ∈ xWS := xw_mem (q := 6) rfl rfl
theorem mw_520 : Cond.instanceMethod yX2_size ∈ xWS := xw_mem (q := 2171) rfl rfl
theorem mw_521 : Cond.methodLink RX11 153 yX2_size ∈ xWS := xw_mem (q := 2170) rfl rfl
theorem mw_522 : Cond.selects RX2 yX2_size yX2_size ∈ xWS := xw_mem (q := 2172) rfl rfl
theorem mw_523 : Cond.instanceMethod yX9_isOf ∈ xWS := xw_mem (q := 2179) rfl rfl
theorem mw_524 : Cond.methodLink RX11 154 yX7_isOf ∈ xWS := xw_mem (q := 2174) rfl rfl
theorem mw_525 : Cond.selects RX4 ⟨"LimpMirror$Pane", "isOf", "(I)Z"⟩ yX9_isOf ∈ xWS := xw_mem (q := 2178) rfl rfl
theorem mw_526 : Cond.instanceMethod yX5_isOf ∈ xWS := xw_mem (q := 2183) rfl rfl
theorem mw_527 : Cond.selects RX5 ⟨"LimpMirror$Pane", "isOf", "(I)Z"⟩ yX5_isOf ∈ xWS := xw_mem (q := 2182) rfl rfl
theorem mw_528 : Cond.selects RX6 ⟨"LimpMirror$Pane", "isOf", "(I)Z"⟩ yX5_isOf ∈ xWS := xw_mem (q := 2186) rfl rfl
theorem mw_529 : Cond.selects RX7 yX7_isOf yX7_isOf ∈ xWS := xw_mem (q := 2176) rfl rfl
theorem mw_530 : Cond.selects RX9 ⟨"LimpMirror$Pane", "isOf", "(I)Z"⟩ yX9_isOf ∈ xWS := xw_mem (q := 2187) rfl rfl
theorem mw_531 : Cond.selects RX10 ⟨"LimpMirror$Pane", "isOf", "(I)Z"⟩ yX7_isOf ∈ xWS := xw_mem (q := 2188) rfl rfl
theorem mw_532 : Cond.methodLink RX11 157 yX7_delay ∈ xWS := xw_mem (q := 2144) rfl rfl
theorem mw_533 : Cond.selects RX4 ⟨"LimpMirror$Pane", "delay", "()I"⟩ yX7_delay ∈ xWS := xw_mem (q := 2148) rfl rfl
theorem mw_534 : Cond.selects RX5 ⟨"LimpMirror$Pane", "delay", "()I"⟩ yX7_delay ∈ xWS := xw_mem (q := 2149) rfl rfl
theorem mw_535 : Cond.selects RX6 ⟨"LimpMirror$Pane", "delay", "()I"⟩ yX7_delay ∈ xWS := xw_mem (q := 2150) rfl rfl
theorem mw_536 : Cond.selects RX7 yX7_delay yX7_delay ∈ xWS := xw_mem (q := 2146) rfl rfl
theorem mw_537 : Cond.selects RX9 ⟨"LimpMirror$Pane", "delay", "()I"⟩ yX7_delay ∈ xWS := xw_mem (q := 2151) rfl rfl
theorem mw_538 : Cond.selects RX10 ⟨"LimpMirror$Pane", "delay", "()I"⟩ yX7_delay ∈ xWS := xw_mem (q := 2152) rfl rfl
theorem mw_539 : Cond.instanceMethod yX8_shown ∈ xWS := xw_mem (q := 2191) rfl rfl
theorem mw_540 : Cond.methodLink RX11 160 yX8_shown ∈ xWS := xw_mem (q := 2190) rfl rfl
theorem mw_541 : Cond.selects RX8 yX8_shown yX8_shown ∈ xWS := xw_mem (q := 2192) rfl rfl
theorem mw_542 : Cond.instanceMethod yX11_noughtsAtDeeds ∈ xWS := xw_mem (q := 3024) rfl rfl
theorem mw_543 : Cond.methodLink RX11 164 yX11_noughtsAtDeeds ∈ xWS := xw_mem (q := 3022) rfl rfl
theorem mw_544 : Cond.selects RX11 yX11_noughtsAtDeeds yX11_noughtsAtDeeds ∈ xWS := xw_mem (q := 7) rfl rfl
theorem mw_545 : Cond.instanceMethod yX8_stepsSeenAs ∈ xWS := xw_mem (q := 3027) rfl rfl
theorem mw_546 : Cond.methodLink RX11 168 yX8_stepsSeenAs ∈ xWS := xw_mem (q := 3026) rfl rfl
theorem mw_547 : Cond.selects RX8 yX8_stepsSeenAs yX8_stepsSeenAs ∈ xWS := xw_mem (q := 3028) rfl rfl
theorem mw_548 : Cond.methodLink RX11 172 yJ6_bitCount_0f7a4 ∈ xWS := xw_mem (q := 3030) rfl rfl
theorem mw_549 : Cond.static yJ6_bitCount_0f7a4 ∈ xWS := xw_mem (q := 3031) rfl rfl
theorem mw_550 : Cond.methodLink RX11 177 yX6_placesToLimp ∈ xWS := xw_mem (q := 3036) rfl rfl
theorem mw_551 : Cond.methodLink RX11 182 yX8_seen ∈ xWS := xw_mem (q := 3037) rfl rfl
theorem mw_552 : Cond.methodLink RX11 185 yX11_isStep ∈ xWS := xw_mem (q := 3042) rfl rfl
theorem mw_553 : Cond.methodLink RX11 188 yX8_thought ∈ xWS := xw_mem (q := 3043) rfl rfl
theorem mw_554 : Cond.instanceMethod yX8_terms ∈ xWS := xw_mem (q := 3049) rfl rfl
theorem mw_555 : Cond.methodLink RX11 191 yX8_terms ∈ xWS := xw_mem (q := 3048) rfl rfl
theorem mw_556 : Cond.selects RX8 yX8_terms yX8_terms ∈ xWS := xw_mem (q := 3050) rfl rfl
theorem mw_557 : Cond.instanceMethod yX8_termStep ∈ xWS := xw_mem (q := 3053) rfl rfl
theorem mw_558 : Cond.methodLink RX11 194 yX8_termStep ∈ xWS := xw_mem (q := 3052) rfl rfl
theorem mw_559 : Cond.selects RX8 yX8_termStep yX8_termStep ∈ xWS := xw_mem (q := 3054) rfl rfl
theorem mw_560 : Cond.instanceMethod yX11_doStep ∈ xWS := xw_mem (q := 3062) rfl rfl
theorem mw_561 : Cond.methodLink RX11 197 yX11_doStep ∈ xWS := xw_mem (q := 3060) rfl rfl
theorem mw_562 : Cond.selects RX11 yX11_doStep yX11_doStep ∈ xWS := xw_mem (q := 8) rfl rfl
theorem mw_563 : Cond.methodLink RX11 200 yX2_fact ∈ xWS := xw_mem (q := 3085) rfl rfl
theorem mw_564 : Cond.instanceMethod yX2_firstThatBroke ∈ xWS := xw_mem (q := 3091) rfl rfl
theorem mw_565 : Cond.methodLink RX11 203 yX2_firstThatBroke ∈ xWS := xw_mem (q := 3090) rfl rfl
theorem mw_566 : Cond.selects RX2 yX2_firstThatBroke yX2_firstThatBroke ∈ xWS := xw_mem (q := 3092) rfl rfl
theorem mw_567 : Cond.instanceMethod yX2_howManyBroke ∈ xWS := xw_mem (q := 3095) rfl rfl
theorem mw_568 : Cond.methodLink RX11 206 yX2_howManyBroke ∈ xWS := xw_mem (q := 3094) rfl rfl
theorem mw_569 : Cond.selects RX2 yX2_howManyBroke yX2_howManyBroke ∈ xWS := xw_mem (q := 3096) rfl rfl
theorem mw_570 : Cond.methodLink RX11 209 yX11_isKept ∈ xWS := xw_mem (q := 3106) rfl rfl
theorem mw_571 : Cond.static yX11_isKept ∈ xWS := xw_mem (q := 3107) rfl rfl
theorem mw_572 : Cond.instanceMethod yX2_takeAll ∈ xWS := xw_mem (q := 3110) rfl rfl
theorem mw_573 : Cond.methodLink RX11 212 yX2_takeAll ∈ xWS := xw_mem (q := 3109) rfl rfl
theorem mw_574 : Cond.selects RX2 yX2_takeAll yX2_takeAll ∈ xWS := xw_mem (q := 3111) rfl rfl
theorem mw_575 : Cond.instanceMethod yX2_isMissing ∈ xWS := xw_mem (q := 3119) rfl rfl
theorem mw_576 : Cond.methodLink RX11 216 yX2_isMissing ∈ xWS := xw_mem (q := 3118) rfl rfl
theorem mw_577 : Cond.selects RX2 yX2_isMissing yX2_isMissing ∈ xWS := xw_mem (q := 3120) rfl rfl
theorem mw_578 : Cond.methodLink RX11 217 yX11_findingOfSteps ∈ xWS := xw_mem (q := 3126) rfl rfl
theorem mw_579 : Cond.static yX11_findingOfSteps ∈ xWS := xw_mem (q := 3127) rfl rfl
theorem mw_580 : Cond.instanceMethod yX0_takeAll ∈ xWS := xw_mem (q := 3130) rfl rfl
theorem mw_581 : Cond.methodLink RX11 220 yX0_takeAll ∈ xWS := xw_mem (q := 3129) rfl rfl
theorem mw_582 : Cond.selects RX0 yX0_takeAll yX0_takeAll ∈ xWS := xw_mem (q := 3131) rfl rfl
theorem mw_583 : Cond.methodLink RX11 223 yX8_isBroken ∈ xWS := xw_mem (q := 3139) rfl rfl
theorem mw_584 : Cond.methodLink RX11 226 yX11_findingOfPair ∈ xWS := xw_mem (q := 3152) rfl rfl
theorem mw_585 : Cond.static yX11_findingOfPair ∈ xWS := xw_mem (q := 3153) rfl rfl
theorem mw_586 : Cond.instanceMethod yX11_findSets ∈ xWS := xw_mem (q := 3161) rfl rfl
theorem mw_587 : Cond.methodLink RX11 230 yX11_findSets ∈ xWS := xw_mem (q := 3159) rfl rfl
theorem mw_588 : Cond.selects RX11 yX11_findSets yX11_findSets ∈ xWS := xw_mem (q := 10) rfl rfl
theorem mw_589 : Cond.instanceMethod yX11_tell ∈ xWS := xw_mem (q := 3167) rfl rfl
theorem mw_590 : Cond.methodLink RX11 234 yX11_tell ∈ xWS := xw_mem (q := 3165) rfl rfl
theorem mw_591 : Cond.selects RX11 yX11_tell yX11_tell ∈ xWS := xw_mem (q := 11) rfl rfl
theorem mw_592 : Cond.methodLink RX11 238 yX11_leastOf ∈ xWS := xw_mem (q := 3176) rfl rfl
theorem mw_593 : Cond.static yX11_leastOf ∈ xWS := xw_mem (q := 3177) rfl rfl
theorem mw_594 : Cond.methodLink RX11 241 yX0_has ∈ xWS := xw_mem (q := 2008) rfl rfl
theorem mw_595 : Cond.instanceMethod yX11_lawsOf ∈ xWS := xw_mem (q := 3189) rfl rfl
theorem mw_596 : Cond.methodLink RX11 244 yX11_lawsOf ∈ xWS := xw_mem (q := 3187) rfl rfl
theorem mw_597 : Cond.selects RX11 yX11_lawsOf yX11_lawsOf ∈ xWS := xw_mem (q := 12) rfl rfl
theorem mw_598 : Cond.instanceMethod yX11_mostThatShowOneThing ∈ xWS := xw_mem (q := 3201) rfl rfl
theorem mw_599 : Cond.methodLink RX11 248 yX11_mostThatShowOneThing ∈ xWS := xw_mem (q := 3199) rfl rfl
theorem mw_600 : Cond.selects RX11 yX11_mostThatShowOneThing yX11_mostThatShowOneThing ∈ xWS := xw_mem (q := 14) rfl rfl
theorem mw_601 : Cond.instanceMethod yX11_firstNotShown ∈ xWS := xw_mem (q := 3193) rfl rfl
theorem mw_602 : Cond.methodLink RX11 251 yX11_firstNotShown ∈ xWS := xw_mem (q := 3191) rfl rfl
theorem mw_603 : Cond.selects RX11 yX11_firstNotShown yX11_firstNotShown ∈ xWS := xw_mem (q := 13) rfl rfl
theorem mw_604 : Cond.methodLink RX11 255 Lib.Math.min.name ∈ xWS := xw_mem (q := 3163) rfl rfl
theorem mw_605 : Cond.instanceMethod yX1_weigh ∈ xWS := xw_mem (q := 3213) rfl rfl
theorem mw_606 : Cond.methodLink RX11 260 yX1_weigh ∈ xWS := xw_mem (q := 3212) rfl rfl
theorem mw_607 : Cond.selects RX1 yX1_weigh yX1_weigh ∈ xWS := xw_mem (q := 3214) rfl rfl
theorem mw_608 : Cond.instanceMethod yX1_rows ∈ xWS := xw_mem (q := 3238) rfl rfl
theorem mw_609 : Cond.methodLink RX11 264 yX1_rows ∈ xWS := xw_mem (q := 3237) rfl rfl
theorem mw_610 : Cond.selects RX1 yX1_rows yX1_rows ∈ xWS := xw_mem (q := 3239) rfl rfl
theorem mw_611 : Cond.instanceMethod yX1_firstSteps ∈ xWS := xw_mem (q := 4002) rfl rfl
theorem mw_612 : Cond.methodLink RX11 266 yX1_firstSteps ∈ xWS := xw_mem (q := 4001) rfl rfl
theorem mw_613 : Cond.selects RX1 yX1_firstSteps yX1_firstSteps ∈ xWS := xw_mem (q := 4003) rfl rfl
theorem mw_614 : Cond.instanceMethod yX1_fewestStill ∈ xWS := xw_mem (q := 4010) rfl rfl
theorem mw_615 : Cond.methodLink RX11 269 yX1_fewestStill ∈ xWS := xw_mem (q := 4009) rfl rfl
theorem mw_616 : Cond.selects RX1 yX1_fewestStill yX1_fewestStill ∈ xWS := xw_mem (q := 4011) rfl rfl
theorem mw_617 : Cond.instanceMethod yX11_leastPick ∈ xWS := xw_mem (q := 4019) rfl rfl
theorem mw_618 : Cond.methodLink RX11 272 yX11_leastPick ∈ xWS := xw_mem (q := 4017) rfl rfl
theorem mw_619 : Cond.selects RX11 yX11_leastPick yX11_leastPick ∈ xWS := xw_mem (q := 17) rfl rfl
theorem mw_620 : Cond.instanceMethod yX11_breakingOfTwelve ∈ xWS := xw_mem (q := 4035) rfl rfl
theorem mw_621 : Cond.methodLink RX11 275 yX11_breakingOfTwelve ∈ xWS := xw_mem (q := 4033) rfl rfl
theorem mw_622 : Cond.selects RX11 yX11_breakingOfTwelve yX11_breakingOfTwelve ∈ xWS := xw_mem (q := 19) rfl rfl
theorem mw_623 : Cond.instanceMethod yX11_glassesOf ∈ xWS := xw_mem (q := 4068) rfl rfl
theorem mw_624 : Cond.methodLink RX11 289 yX11_glassesOf ∈ xWS := xw_mem (q := 4066) rfl rfl
theorem mw_625 : Cond.selects RX11 yX11_glassesOf yX11_glassesOf ∈ xWS := xw_mem (q := 20) rfl rfl
theorem mw_626 : Cond.methodLink RX11 292 yX11_howManyThere ∈ xWS := xw_mem (q := 4070) rfl rfl
theorem mw_627 : Cond.static yX11_howManyThere ∈ xWS := xw_mem (q := 4071) rfl rfl
theorem mw_628 : Cond.instanceMethod yX11_keptOnes ∈ xWS := xw_mem (q := 4075) rfl rfl
theorem mw_629 : Cond.methodLink RX11 296 yX11_keptOnes ∈ xWS := xw_mem (q := 4073) rfl rfl
theorem mw_630 : Cond.selects RX11 yX11_keptOnes yX11_keptOnes ∈ xWS := xw_mem (q := 21) rfl rfl
theorem mw_631 : Cond.instanceMethod yX11_count ∈ xWS := xw_mem (q := 4063) rfl rfl
theorem mw_632 : Cond.methodLink RX11 303 yX11_count ∈ xWS := xw_mem (q := 4091) rfl rfl
theorem mw_633 : Cond.selects RX11 yX11_count yX11_count ∈ xWS := xw_mem (q := 4064) rfl rfl
theorem mw_634 : Cond.methodLink RX11 306 yX11_digestOf ∈ xWS := xw_mem (q := 4092) rfl rfl
theorem mw_635 : Cond.static yX11_digestOf ∈ xWS := xw_mem (q := 4093) rfl rfl
theorem mw_636 : Cond.methodLink RX11 312 yX5_init ∈ xWS := xw_mem (q := 1111) rfl rfl
theorem mw_637 : Cond.methodLink RX11 316 yX9_init ∈ xWS := xw_mem (q := 1127) rfl rfl
theorem mw_638 : Cond.methodLink RX11 319 yX10_init ∈ xWS := xw_mem (q := 1136) rfl rfl
theorem mw_639 : Cond.instanceMethod yX10_init ∈ xWS := xw_mem (q := 1137) rfl rfl
theorem mw_640 : Cond.methodLink RX11 320 yX6_init ∈ xWS := xw_mem (q := 1145) rfl rfl
theorem mw_641 : Cond.instanceMethod yX6_init ∈ xWS := xw_mem (q := 1146) rfl rfl
theorem mw_642 : Cond.methodLink RX11 323 yX4_init ∈ xWS := xw_mem (q := 1154) rfl rfl
theorem mw_643 : Cond.instanceMethod yX4_init ∈ xWS := xw_mem (q := 1155) rfl rfl
theorem mw_644 : Cond.methodLink RX11 324 yX7_init ∈ xWS := xw_mem (q := 1162) rfl rfl
theorem mw_645 : Cond.instanceMethod yX8_lawOf ∈ xWS := xw_mem (q := 2131) rfl rfl
theorem mw_646 : Cond.methodLink RX11 325 yX8_lawOf ∈ xWS := xw_mem (q := 2130) rfl rfl
theorem mw_647 : Cond.selects RX8 yX8_lawOf yX8_lawOf ∈ xWS := xw_mem (q := 2132) rfl rfl
theorem mw_648 : Cond.instanceMethod yX7_kind ∈ xWS := xw_mem (q := 2135) rfl rfl
theorem mw_649 : Cond.methodLink RX11 328 yX7_kind ∈ xWS := xw_mem (q := 2134) rfl rfl
theorem mw_650 : Cond.selects RX4 ⟨"LimpMirror$Pane", "kind", "()I"⟩ yX7_kind ∈ xWS := xw_mem (q := 2138) rfl rfl
theorem mw_651 : Cond.selects RX5 ⟨"LimpMirror$Pane", "kind", "()I"⟩ yX7_kind ∈ xWS := xw_mem (q := 2139) rfl rfl
theorem mw_652 : Cond.selects RX6 ⟨"LimpMirror$Pane", "kind", "()I"⟩ yX7_kind ∈ xWS := xw_mem (q := 2140) rfl rfl
theorem mw_653 : Cond.selects RX7 yX7_kind yX7_kind ∈ xWS := xw_mem (q := 2136) rfl rfl
theorem mw_654 : Cond.selects RX9 ⟨"LimpMirror$Pane", "kind", "()I"⟩ yX7_kind ∈ xWS := xw_mem (q := 2141) rfl rfl
theorem mw_655 : Cond.selects RX10 ⟨"LimpMirror$Pane", "kind", "()I"⟩ yX7_kind ∈ xWS := xw_mem (q := 2142) rfl rfl
theorem mw_656 : Cond.instanceMethod yX2_howManyBefore ∈ xWS := xw_mem (q := 2155) rfl rfl
theorem mw_657 : Cond.methodLink RX11 331 yX2_howManyBefore ∈ xWS := xw_mem (q := 2154) rfl rfl
theorem mw_658 : Cond.selects RX2 yX2_howManyBefore yX2_howManyBefore ∈ xWS := xw_mem (q := 2156) rfl rfl
theorem mw_659 : Cond.instanceMethod yX2_howManyBrokeBefore ∈ xWS := xw_mem (q := 2163) rfl rfl
theorem mw_660 : Cond.methodLink RX11 334 yX2_howManyBrokeBefore ∈ xWS := xw_mem (q := 2162) rfl rfl
theorem mw_661 : Cond.selects RX2 yX2_howManyBrokeBefore yX2_howManyBrokeBefore ∈ xWS := xw_mem (q := 2164) rfl rfl
theorem mw_662 : Cond.instanceMethod yX2_add ∈ xWS := xw_mem (q := 3065) rfl rfl
theorem mw_663 : Cond.methodLink RX11 337 yX2_add ∈ xWS := xw_mem (q := 3064) rfl rfl
theorem mw_664 : Cond.selects RX2 yX2_add yX2_add ∈ xWS := xw_mem (q := 3066) rfl rfl
theorem mw_665 : Cond.methodLink RX11 340 yX8_firstBroken ∈ xWS := xw_mem (q := 3076) rfl rfl
theorem mw_666 : Cond.methodLink RX11 343 yX2_see ∈ xWS := xw_mem (q := 3080) rfl rfl
theorem mw_667 : Cond.methodLink RX11 347 yX7_source ∈ xWS := xw_mem (q := 3164) rfl rfl
theorem mw_668 : Cond.methodLink RX11 350 Lib.Math.max.name ∈ xWS := xw_mem (q := 3203) rfl rfl
theorem mw_669 : Cond.instanceMethod yX11_isSafeBeforeAll ∈ xWS := xw_mem (q := 4023) rfl rfl
theorem mw_670 : Cond.methodLink RX11 353 yX11_isSafeBeforeAll ∈ xWS := xw_mem (q := 4021) rfl rfl
theorem mw_671 : Cond.selects RX11 yX11_isSafeBeforeAll yX11_isSafeBeforeAll ∈ xWS := xw_mem (q := 18) rfl rfl
theorem mw_672 : Cond.methodLink RX11 356 yX11_commonDivisor ∈ xWS := xw_mem (q := 3169) rfl rfl
theorem mw_673 : Cond.static yX11_commonDivisor ∈ xWS := xw_mem (q := 3170) rfl rfl
theorem mw_674 : Cond.methodLink RX12 1 objectInit ∈ xWS := xw_mem (q := 4100) rfl rfl
theorem mw_675 : Cond.methodLink RX12 81 yX12_in ∈ xWS := xw_mem (q := 4205) rfl rfl
theorem mw_676 : Cond.static yX12_in ∈ xWS := xw_mem (q := 4206) rfl rfl
theorem mw_677 : Cond.methodLink RX12 85 yX12_isRow ∈ xWS := xw_mem (q := 4202) rfl rfl
theorem mw_678 : Cond.static yX12_isRow ∈ xWS := xw_mem (q := 4203) rfl rfl
theorem mw_679 : Cond.instanceMethod yX12_finds ∈ xWS := xw_mem (q := 4210) rfl rfl
theorem mw_680 : Cond.methodLink RX12 89 yX12_finds ∈ xWS := xw_mem (q := 4208) rfl rfl
theorem mw_681 : Cond.selects RX12 yX12_finds yX12_finds ∈ xWS := xw_mem (q := 22) rfl rfl
theorem mw_682 : Cond.instanceMethod yX12_wrongAt ∈ xWS := xw_mem (q := 4218) rfl rfl
theorem mw_683 : Cond.methodLink RX12 93 yX12_wrongAt ∈ xWS := xw_mem (q := 4216) rfl rfl
theorem mw_684 : Cond.selects RX12 yX12_wrongAt yX12_wrongAt ∈ xWS := xw_mem (q := 23) rfl rfl
theorem mw_685 : Cond.instanceMethod yX12_tells ∈ xWS := xw_mem (q := 4222) rfl rfl
theorem mw_686 : Cond.methodLink RX12 97 yX12_tells ∈ xWS := xw_mem (q := 4220) rfl rfl
theorem mw_687 : Cond.selects RX12 yX12_tells yX12_tells ∈ xWS := xw_mem (q := 24) rfl rfl
theorem mw_688 : Cond.methodLink RX12 100 yX12_isPart ∈ xWS := xw_mem (q := 4236) rfl rfl
theorem mw_689 : Cond.static yX12_isPart ∈ xWS := xw_mem (q := 4237) rfl rfl
theorem mw_690 : Cond.methodLink RX12 103 yX12_isText ∈ xWS := xw_mem (q := 5007) rfl rfl
theorem mw_691 : Cond.static yX12_isText ∈ xWS := xw_mem (q := 5008) rfl rfl
theorem mw_692 : Cond.instanceMethod yX12_letter ∈ xWS := xw_mem (q := 5032) rfl rfl
theorem mw_693 : Cond.methodLink RX12 115 yX12_letter ∈ xWS := xw_mem (q := 5030) rfl rfl
theorem mw_694 : Cond.selects RX12 yX12_letter yX12_letter ∈ xWS := xw_mem (q := 28) rfl rfl
theorem mw_695 : Cond.instanceMethod yX12_skip ∈ xWS := xw_mem (q := 5028) rfl rfl
theorem mw_696 : Cond.methodLink RX12 119 yX12_skip ∈ xWS := xw_mem (q := 5026) rfl rfl
theorem mw_697 : Cond.selects RX12 yX12_skip yX12_skip ∈ xWS := xw_mem (q := 27) rfl rfl
theorem mw_698 : Cond.instanceMethod yX12_figure ∈ xWS := xw_mem (q := 5036) rfl rfl
theorem mw_699 : Cond.methodLink RX12 122 yX12_figure ∈ xWS := xw_mem (q := 5034) rfl rfl
theorem mw_700 : Cond.selects RX12 yX12_figure yX12_figure ∈ xWS := xw_mem (q := 29) rfl rfl
theorem mw_701 : Cond.methodLink RX12 131 yX12_kindBy ∈ xWS := xw_mem (q := 5038) rfl rfl
theorem mw_702 : Cond.static yX12_kindBy ∈ xWS := xw_mem (q := 5039) rfl rfl
theorem mw_703 : Cond.instanceMethod yX12_areHabits ∈ xWS := xw_mem (q := 5024) rfl rfl
theorem mw_704 : Cond.methodLink RX12 134 yX12_areHabits ∈ xWS := xw_mem (q := 5022) rfl rfl
theorem mw_705 : Cond.selects RX12 yX12_areHabits yX12_areHabits ∈ xWS := xw_mem (q := 26) rfl rfl
theorem mw_706 : Cond.instanceMethod yX12_isGlassItem ∈ xWS := xw_mem (q := 5043) rfl rfl
theorem mw_707 : Cond.methodLink RX12 138 yX12_isGlassItem ∈ xWS := xw_mem (q := 5041) rfl rfl
theorem mw_708 : Cond.selects RX12 yX12_isGlassItem yX12_isGlassItem ∈ xWS := xw_mem (q := 30) rfl rfl
theorem mw_709 : Cond.instanceMethod yX12_isTermItem ∈ xWS := xw_mem (q := 5047) rfl rfl
theorem mw_710 : Cond.methodLink RX12 141 yX12_isTermItem ∈ xWS := xw_mem (q := 5045) rfl rfl
theorem mw_711 : Cond.selects RX12 yX12_isTermItem yX12_isTermItem ∈ xWS := xw_mem (q := 31) rfl rfl
theorem mw_712 : Cond.instanceMethod yX12_isRoom ∈ xWS := xw_mem (q := 5020) rfl rfl
theorem mw_713 : Cond.methodLink RX12 144 yX12_isRoom ∈ xWS := xw_mem (q := 5018) rfl rfl
theorem mw_714 : Cond.selects RX12 yX12_isRoom yX12_isRoom ∈ xWS := xw_mem (q := 25) rfl rfl
theorem mw_715 : Cond.methodLink RX12 156 yX12_mirrored ∈ xWS := xw_mem (q := 5077) rfl rfl
theorem mw_716 : Cond.static yX12_mirrored ∈ xWS := xw_mem (q := 5078) rfl rfl
theorem mw_717 : Cond.instanceMethod yX12_showsBy ∈ xWS := xw_mem (q := 5075) rfl rfl
theorem mw_718 : Cond.methodLink RX12 159 yX12_showsBy ∈ xWS := xw_mem (q := 5073) rfl rfl
theorem mw_719 : Cond.selects RX12 yX12_showsBy yX12_showsBy ∈ xWS := xw_mem (q := 36) rfl rfl
theorem mw_720 : Cond.instanceMethod yX12_showsOf ∈ xWS := xw_mem (q := 5071) rfl rfl
theorem mw_721 : Cond.methodLink RX12 163 yX12_showsOf ∈ xWS := xw_mem (q := 5069) rfl rfl
theorem mw_722 : Cond.selects RX12 yX12_showsOf yX12_showsOf ∈ xWS := xw_mem (q := 35) rfl rfl
theorem mw_723 : Cond.instanceMethod yX12_shownOf ∈ xWS := xw_mem (q := 5067) rfl rfl
theorem mw_724 : Cond.methodLink RX12 167 yX12_shownOf ∈ xWS := xw_mem (q := 5065) rfl rfl
theorem mw_725 : Cond.selects RX12 yX12_shownOf yX12_shownOf ∈ xWS := xw_mem (q := 34) rfl rfl
theorem mw_726 : Cond.instanceMethod yX12_termBy ∈ xWS := xw_mem (q := 5082) rfl rfl
theorem mw_727 : Cond.methodLink RX12 170 yX12_termBy ∈ xWS := xw_mem (q := 5080) rfl rfl
theorem mw_728 : Cond.selects RX12 yX12_termBy yX12_termBy ∈ xWS := xw_mem (q := 37) rfl rfl
theorem mw_729 : Cond.instanceMethod yX12_isGlass ∈ xWS := xw_mem (q := 5059) rfl rfl
theorem mw_730 : Cond.methodLink RX12 173 yX12_isGlass ∈ xWS := xw_mem (q := 5057) rfl rfl
theorem mw_731 : Cond.selects RX12 yX12_isGlass yX12_isGlass ∈ xWS := xw_mem (q := 32) rfl rfl
theorem mw_732 : Cond.instanceMethod yX12_brokenBy ∈ xWS := xw_mem (q := 5063) rfl rfl
theorem mw_733 : Cond.methodLink RX12 176 yX12_brokenBy ∈ xWS := xw_mem (q := 5061) rfl rfl
theorem mw_734 : Cond.selects RX12 yX12_brokenBy yX12_brokenBy ∈ xWS := xw_mem (q := 33) rfl rfl
theorem mw_735 : Cond.methodLink RX12 179 yX12_isOf ∈ xWS := xw_mem (q := 5088) rfl rfl
theorem mw_736 : Cond.static yX12_isOf ∈ xWS := xw_mem (q := 5089) rfl rfl
theorem mw_737 : Cond.methodLink RX12 183 yX12_isStep ∈ xWS := xw_mem (q := 5095) rfl rfl
theorem mw_738 : Cond.static yX12_isStep ∈ xWS := xw_mem (q := 5096) rfl rfl
theorem mw_739 : Cond.instanceMethod yX12_doStep ∈ xWS := xw_mem (q := 5108) rfl rfl
theorem mw_740 : Cond.methodLink RX12 186 yX12_doStep ∈ xWS := xw_mem (q := 5106) rfl rfl
theorem mw_741 : Cond.selects RX12 yX12_doStep yX12_doStep ∈ xWS := xw_mem (q := 38) rfl rfl
theorem mw_742 : Cond.instanceMethod yX12_brokenMany ∈ xWS := xw_mem (q := 5120) rfl rfl
theorem mw_743 : Cond.methodLink RX12 189 yX12_brokenMany ∈ xWS := xw_mem (q := 5118) rfl rfl
theorem mw_744 : Cond.selects RX12 yX12_brokenMany yX12_brokenMany ∈ xWS := xw_mem (q := 39) rfl rfl
theorem mw_745 : Cond.instanceMethod yX12_takeOut ∈ xWS := xw_mem (q := 5140) rfl rfl
theorem mw_746 : Cond.methodLink RX12 192 yX12_takeOut ∈ xWS := xw_mem (q := 5138) rfl rfl
theorem mw_747 : Cond.selects RX12 yX12_takeOut yX12_takeOut ∈ xWS := xw_mem (q := 40) rfl rfl
theorem mw_748 : Cond.instanceMethod yX12_layRow ∈ xWS := xw_mem (q := 5144) rfl rfl
theorem mw_749 : Cond.methodLink RX12 196 yX12_layRow ∈ xWS := xw_mem (q := 5142) rfl rfl
theorem mw_750 : Cond.selects RX12 yX12_layRow yX12_layRow ∈ xWS := xw_mem (q := 41) rfl rfl
theorem mw_751 : Cond.instanceMethod yX12_breaksAt ∈ xWS := xw_mem (q := 5152) rfl rfl
theorem mw_752 : Cond.methodLink RX12 199 yX12_breaksAt ∈ xWS := xw_mem (q := 5150) rfl rfl
theorem mw_753 : Cond.selects RX12 yX12_breaksAt yX12_breaksAt ∈ xWS := xw_mem (q := 42) rfl rfl
theorem mw_754 : Cond.instanceMethod yX12_takeTwo ∈ xWS := xw_mem (q := 5164) rfl rfl
theorem mw_755 : Cond.methodLink RX12 202 yX12_takeTwo ∈ xWS := xw_mem (q := 5162) rfl rfl
theorem mw_756 : Cond.selects RX12 yX12_takeTwo yX12_takeTwo ∈ xWS := xw_mem (q := 43) rfl rfl
theorem mw_757 : Cond.methodLink RX12 205 yX12_rowsOf ∈ xWS := xw_mem (q := 5170) rfl rfl
theorem mw_758 : Cond.static yX12_rowsOf ∈ xWS := xw_mem (q := 5171) rfl rfl
theorem mw_759 : Cond.instanceMethod yX12_layDoings ∈ xWS := xw_mem (q := 5175) rfl rfl
theorem mw_760 : Cond.methodLink RX12 208 yX12_layDoings ∈ xWS := xw_mem (q := 5173) rfl rfl
theorem mw_761 : Cond.selects RX12 yX12_layDoings yX12_layDoings ∈ xWS := xw_mem (q := 44) rfl rfl
theorem mw_762 : Cond.instanceMethod yX12_shows ∈ xWS := xw_mem (q := 5179) rfl rfl
theorem mw_763 : Cond.methodLink RX12 212 yX12_shows ∈ xWS := xw_mem (q := 5177) rfl rfl
theorem mw_764 : Cond.selects RX12 yX12_shows yX12_shows ∈ xWS := xw_mem (q := 45) rfl rfl
theorem mw_765 : Cond.instanceMethod yX12_tellParts ∈ xWS := xw_mem (q := 5183) rfl rfl
theorem mw_766 : Cond.methodLink RX12 215 yX12_tellParts ∈ xWS := xw_mem (q := 5181) rfl rfl
theorem mw_767 : Cond.selects RX12 yX12_tellParts yX12_tellParts ∈ xWS := xw_mem (q := 46) rfl rfl
theorem mw_768 : Cond.instanceMethod yX12_lawsOf ∈ xWS := xw_mem (q := 5199) rfl rfl
theorem mw_769 : Cond.methodLink RX12 219 yX12_lawsOf ∈ xWS := xw_mem (q := 5197) rfl rfl
theorem mw_770 : Cond.selects RX12 yX12_lawsOf yX12_lawsOf ∈ xWS := xw_mem (q := 47) rfl rfl
theorem mw_771 : Cond.methodLink RX12 222 yX12_bits ∈ xWS := xw_mem (q := 5205) rfl rfl
theorem mw_772 : Cond.static yX12_bits ∈ xWS := xw_mem (q := 5206) rfl rfl
theorem mw_773 : Cond.methodLink RX12 225 yX12_has ∈ xWS := xw_mem (q := 5208) rfl rfl
theorem mw_774 : Cond.static yX12_has ∈ xWS := xw_mem (q := 5209) rfl rfl
theorem mw_775 : Cond.instanceMethod yX12_breaksNone ∈ xWS := xw_mem (q := 5221) rfl rfl
theorem mw_776 : Cond.methodLink RX12 228 yX12_breaksNone ∈ xWS := xw_mem (q := 5219) rfl rfl
theorem mw_777 : Cond.selects RX12 yX12_breaksNone yX12_breaksNone ∈ xWS := xw_mem (q := 48) rfl rfl
theorem mw_778 : Cond.instanceMethod yX12_isSafe ∈ xWS := xw_mem (q := 5237) rfl rfl
theorem mw_779 : Cond.methodLink RX12 231 yX12_isSafe ∈ xWS := xw_mem (q := 5235) rfl rfl
theorem mw_780 : Cond.selects RX12 yX12_isSafe yX12_isSafe ∈ xWS := xw_mem (q := 50) rfl rfl
theorem mw_781 : Cond.instanceMethod yX12_gameBy ∈ xWS := xw_mem (q := 5233) rfl rfl
theorem mw_782 : Cond.methodLink RX12 234 yX12_gameBy ∈ xWS := xw_mem (q := 5231) rfl rfl
theorem mw_783 : Cond.selects RX12 yX12_gameBy yX12_gameBy ∈ xWS := xw_mem (q := 49) rfl rfl
theorem mw_784 : Cond.instanceMethod yX12_kindsOf ∈ xWS := xw_mem (q := 6043) rfl rfl
theorem mw_785 : Cond.methodLink RX12 248 yX12_kindsOf ∈ xWS := xw_mem (q := 6041) rfl rfl
theorem mw_786 : Cond.selects RX12 yX12_kindsOf yX12_kindsOf ∈ xWS := xw_mem (q := 52) rfl rfl
theorem mw_787 : Cond.methodLink RX12 251 yX12_thereOf ∈ xWS := xw_mem (q := 6045) rfl rfl
theorem mw_788 : Cond.static yX12_thereOf ∈ xWS := xw_mem (q := 6046) rfl rfl
theorem mw_789 : Cond.instanceMethod yX12_countOf ∈ xWS := xw_mem (q := 6039) rfl rfl
theorem mw_790 : Cond.methodLink RX12 255 yX12_countOf ∈ xWS := xw_mem (q := 6037) rfl rfl
theorem mw_791 : Cond.selects RX12 yX12_countOf yX12_countOf ∈ xWS := xw_mem (q := 51) rfl rfl
theorem mw_792 : Cond.instanceMethod yX12_add ∈ xWS := xw_mem (q := 6063) rfl rfl
theorem mw_793 : Cond.methodLink RX12 265 yX12_add ∈ xWS := xw_mem (q := 6061) rfl rfl
theorem mw_794 : Cond.selects RX12 yX12_add yX12_add ∈ xWS := xw_mem (q := 53) rfl rfl
theorem mw_795 : Cond.methodLink RL 9 yX11_init ∈ xWS := xw_mem (q := 1019) rfl rfl
theorem mw_796 : Cond.instanceMethod yX11_init ∈ xWS := xw_mem (q := 1020) rfl rfl
theorem mw_797 : Cond.methodLink RL 12 yX12_init ∈ xWS := xw_mem (q := 4097) rfl rfl
theorem mw_798 : Cond.instanceMethod yX12_init ∈ xWS := xw_mem (q := 4098) rfl rfl
theorem mw_799 : Cond.instanceMethod yX11_row ∈ xWS := xw_mem (q := 1220) rfl rfl
theorem mw_800 : Cond.methodLink RL 13 yX11_row ∈ xWS := xw_mem (q := 1219) rfl rfl
theorem mw_801 : Cond.selects RX11 yX11_row yX11_row ∈ xWS := xw_mem (q := 1221) rfl rfl
theorem mw_802 : Cond.instanceMethod yX12_row ∈ xWS := xw_mem (q := 4199) rfl rfl
theorem mw_803 : Cond.methodLink RL 17 yX12_row ∈ xWS := xw_mem (q := 4198) rfl rfl
theorem mw_804 : Cond.selects RX12 yX12_row yX12_row ∈ xWS := xw_mem (q := 4200) rfl rfl
theorem mw_805 : Cond.instanceMethod yX11_lay ∈ xWS := xw_mem (q := 1238) rfl rfl
theorem mw_806 : Cond.methodLink RL 18 yX11_lay ∈ xWS := xw_mem (q := 1237) rfl rfl
theorem mw_807 : Cond.selects RX11 yX11_lay yX11_lay ∈ xWS := xw_mem (q := 1239) rfl rfl
theorem mw_808 : Cond.instanceMethod yX12_lay ∈ xWS := xw_mem (q := 4213) rfl rfl
theorem mw_809 : Cond.methodLink RL 22 yX12_lay ∈ xWS := xw_mem (q := 4212) rfl rfl
theorem mw_810 : Cond.selects RX12 yX12_lay yX12_lay ∈ xWS := xw_mem (q := 4214) rfl rfl
theorem mw_811 : Cond.instanceMethod yX11_at ∈ xWS := xw_mem (q := 2022) rfl rfl
theorem mw_812 : Cond.methodLink RL 23 yX11_at ∈ xWS := xw_mem (q := 2021) rfl rfl
theorem mw_813 : Cond.selects RX11 yX11_at yX11_at ∈ xWS := xw_mem (q := 2023) rfl rfl
theorem mw_814 : Cond.instanceMethod yX12_at ∈ xWS := xw_mem (q := 4225) rfl rfl
theorem mw_815 : Cond.methodLink RL 26 yX12_at ∈ xWS := xw_mem (q := 4224) rfl rfl
theorem mw_816 : Cond.selects RX12 yX12_at yX12_at ∈ xWS := xw_mem (q := 4226) rfl rfl
theorem mw_817 : Cond.instanceMethod yX11_tear ∈ xWS := xw_mem (q := 2026) rfl rfl
theorem mw_818 : Cond.methodLink RL 27 yX11_tear ∈ xWS := xw_mem (q := 2025) rfl rfl
theorem mw_819 : Cond.selects RX11 yX11_tear yX11_tear ∈ xWS := xw_mem (q := 2027) rfl rfl
theorem mw_820 : Cond.instanceMethod yX12_tear ∈ xWS := xw_mem (q := 4229) rfl rfl
theorem mw_821 : Cond.methodLink RL 31 yX12_tear ∈ xWS := xw_mem (q := 4228) rfl rfl
theorem mw_822 : Cond.selects RX12 yX12_tear yX12_tear ∈ xWS := xw_mem (q := 4230) rfl rfl
theorem mw_823 : Cond.instanceMethod yX11_copy ∈ xWS := xw_mem (q := 2034) rfl rfl
theorem mw_824 : Cond.methodLink RL 32 yX11_copy ∈ xWS := xw_mem (q := 2033) rfl rfl
theorem mw_825 : Cond.selects RX11 yX11_copy yX11_copy ∈ xWS := xw_mem (q := 2035) rfl rfl
theorem mw_826 : Cond.instanceMethod yX12_copy ∈ xWS := xw_mem (q := 4233) rfl rfl
theorem mw_827 : Cond.methodLink RL 36 yX12_copy ∈ xWS := xw_mem (q := 4232) rfl rfl
theorem mw_828 : Cond.selects RX12 yX12_copy yX12_copy ∈ xWS := xw_mem (q := 4234) rfl rfl
theorem mw_829 : Cond.instanceMethod yX11_mean ∈ xWS := xw_mem (q := 2050) rfl rfl
theorem mw_830 : Cond.methodLink RL 37 yX11_mean ∈ xWS := xw_mem (q := 2049) rfl rfl
theorem mw_831 : Cond.selects RX11 yX11_mean yX11_mean ∈ xWS := xw_mem (q := 2051) rfl rfl
theorem mw_832 : Cond.instanceMethod yX12_mean ∈ xWS := xw_mem (q := 5000) rfl rfl
theorem mw_833 : Cond.methodLink RL 40 yX12_mean ∈ xWS := xw_mem (q := 4239) rfl rfl
theorem mw_834 : Cond.selects RX12 yX12_mean yX12_mean ∈ xWS := xw_mem (q := 5001) rfl rfl
theorem mw_835 : Cond.instanceMethod yX11_text ∈ xWS := xw_mem (q := 2058) rfl rfl
theorem mw_836 : Cond.methodLink RL 41 yX11_text ∈ xWS := xw_mem (q := 2057) rfl rfl
theorem mw_837 : Cond.selects RX11 yX11_text yX11_text ∈ xWS := xw_mem (q := 2059) rfl rfl
theorem mw_838 : Cond.instanceMethod yX12_text ∈ xWS := xw_mem (q := 5004) rfl rfl
theorem mw_839 : Cond.methodLink RL 44 yX12_text ∈ xWS := xw_mem (q := 5003) rfl rfl
theorem mw_840 : Cond.selects RX12 yX12_text yX12_text ∈ xWS := xw_mem (q := 5005) rfl rfl
theorem mw_841 : Cond.instanceMethod yX11_put ∈ xWS := xw_mem (q := 2065) rfl rfl
theorem mw_842 : Cond.methodLink RL 45 yX11_put ∈ xWS := xw_mem (q := 2064) rfl rfl
theorem mw_843 : Cond.selects RX11 yX11_put yX11_put ∈ xWS := xw_mem (q := 2066) rfl rfl
theorem mw_844 : Cond.instanceMethod yX12_put ∈ xWS := xw_mem (q := 5011) rfl rfl
theorem mw_845 : Cond.methodLink RL 48 yX12_put ∈ xWS := xw_mem (q := 5010) rfl rfl
theorem mw_846 : Cond.selects RX12 yX12_put yX12_put ∈ xWS := xw_mem (q := 5012) rfl rfl
theorem mw_847 : Cond.instanceMethod yX11_fault ∈ xWS := xw_mem (q := 2069) rfl rfl
theorem mw_848 : Cond.methodLink RL 49 yX11_fault ∈ xWS := xw_mem (q := 2068) rfl rfl
theorem mw_849 : Cond.selects RX11 yX11_fault yX11_fault ∈ xWS := xw_mem (q := 2070) rfl rfl
theorem mw_850 : Cond.instanceMethod yX12_fault ∈ xWS := xw_mem (q := 5015) rfl rfl
theorem mw_851 : Cond.methodLink RL 52 yX12_fault ∈ xWS := xw_mem (q := 5014) rfl rfl
theorem mw_852 : Cond.selects RX12 yX12_fault yX12_fault ∈ xWS := xw_mem (q := 5016) rfl rfl
theorem mw_853 : Cond.instanceMethod yX11_room ∈ xWS := xw_mem (q := 2103) rfl rfl
theorem mw_854 : Cond.methodLink RL 53 yX11_room ∈ xWS := xw_mem (q := 2102) rfl rfl
theorem mw_855 : Cond.selects RX11 yX11_room yX11_room ∈ xWS := xw_mem (q := 2104) rfl rfl
theorem mw_856 : Cond.instanceMethod yX12_room ∈ xWS := xw_mem (q := 5050) rfl rfl
theorem mw_857 : Cond.methodLink RL 56 yX12_room ∈ xWS := xw_mem (q := 5049) rfl rfl
theorem mw_858 : Cond.selects RX12 yX12_room yX12_room ∈ xWS := xw_mem (q := 5051) rfl rfl
theorem mw_859 : Cond.instanceMethod yX11_glass ∈ xWS := xw_mem (q := 2115) rfl rfl
theorem mw_860 : Cond.methodLink RL 57 yX11_glass ∈ xWS := xw_mem (q := 2114) rfl rfl
theorem mw_861 : Cond.selects RX11 yX11_glass yX11_glass ∈ xWS := xw_mem (q := 2116) rfl rfl
theorem mw_862 : Cond.instanceMethod yX12_glass ∈ xWS := xw_mem (q := 5054) rfl rfl
theorem mw_863 : Cond.methodLink RL 60 yX12_glass ∈ xWS := xw_mem (q := 5053) rfl rfl
theorem mw_864 : Cond.selects RX12 yX12_glass yX12_glass ∈ xWS := xw_mem (q := 5055) rfl rfl
theorem mw_865 : Cond.instanceMethod yX11_mark ∈ xWS := xw_mem (q := 2167) rfl rfl
theorem mw_866 : Cond.methodLink RL 61 yX11_mark ∈ xWS := xw_mem (q := 2166) rfl rfl
theorem mw_867 : Cond.selects RX11 yX11_mark yX11_mark ∈ xWS := xw_mem (q := 2168) rfl rfl
theorem mw_868 : Cond.instanceMethod yX12_mark ∈ xWS := xw_mem (q := 5085) rfl rfl
theorem mw_869 : Cond.methodLink RL 64 yX12_mark ∈ xWS := xw_mem (q := 5084) rfl rfl
theorem mw_870 : Cond.selects RX12 yX12_mark yX12_mark ∈ xWS := xw_mem (q := 5086) rfl rfl
theorem mw_871 : Cond.instanceMethod yX11_habit ∈ xWS := xw_mem (q := 3039) rfl rfl
theorem mw_872 : Cond.methodLink RL 65 yX11_habit ∈ xWS := xw_mem (q := 3038) rfl rfl
theorem mw_873 : Cond.selects RX11 yX11_habit yX11_habit ∈ xWS := xw_mem (q := 3040) rfl rfl
theorem mw_874 : Cond.instanceMethod yX12_habit ∈ xWS := xw_mem (q := 5092) rfl rfl
theorem mw_875 : Cond.methodLink RL 68 yX12_habit ∈ xWS := xw_mem (q := 5091) rfl rfl
theorem mw_876 : Cond.selects RX12 yX12_habit yX12_habit ∈ xWS := xw_mem (q := 5093) rfl rfl
theorem mw_877 : Cond.instanceMethod yX11_term ∈ xWS := xw_mem (q := 3045) rfl rfl
theorem mw_878 : Cond.methodLink RL 69 yX11_term ∈ xWS := xw_mem (q := 3044) rfl rfl
theorem mw_879 : Cond.selects RX11 yX11_term yX11_term ∈ xWS := xw_mem (q := 3046) rfl rfl
theorem mw_880 : Cond.instanceMethod yX12_term ∈ xWS := xw_mem (q := 5099) rfl rfl
theorem mw_881 : Cond.methodLink RL 72 yX12_term ∈ xWS := xw_mem (q := 5098) rfl rfl
theorem mw_882 : Cond.selects RX12 yX12_term yX12_term ∈ xWS := xw_mem (q := 5100) rfl rfl
theorem mw_883 : Cond.instanceMethod yX11_step ∈ xWS := xw_mem (q := 3057) rfl rfl
theorem mw_884 : Cond.methodLink RL 73 yX11_step ∈ xWS := xw_mem (q := 3056) rfl rfl
theorem mw_885 : Cond.selects RX11 yX11_step yX11_step ∈ xWS := xw_mem (q := 3058) rfl rfl
theorem mw_886 : Cond.instanceMethod yX12_step ∈ xWS := xw_mem (q := 5103) rfl rfl
theorem mw_887 : Cond.methodLink RL 76 yX12_step ∈ xWS := xw_mem (q := 5102) rfl rfl
theorem mw_888 : Cond.selects RX12 yX12_step yX12_step ∈ xWS := xw_mem (q := 5104) rfl rfl
theorem mw_889 : Cond.instanceMethod yX11_deed ∈ xWS := xw_mem (q := 3082) rfl rfl
theorem mw_890 : Cond.methodLink RL 77 yX11_deed ∈ xWS := xw_mem (q := 3081) rfl rfl
theorem mw_891 : Cond.selects RX11 yX11_deed yX11_deed ∈ xWS := xw_mem (q := 3083) rfl rfl
theorem mw_892 : Cond.instanceMethod yX12_deed ∈ xWS := xw_mem (q := 5111) rfl rfl
theorem mw_893 : Cond.methodLink RL 80 yX12_deed ∈ xWS := xw_mem (q := 5110) rfl rfl
theorem mw_894 : Cond.selects RX12 yX12_deed yX12_deed ∈ xWS := xw_mem (q := 5112) rfl rfl
theorem mw_895 : Cond.instanceMethod yX11_broken ∈ xWS := xw_mem (q := 3087) rfl rfl
theorem mw_896 : Cond.methodLink RL 81 yX11_broken ∈ xWS := xw_mem (q := 3086) rfl rfl
theorem mw_897 : Cond.selects RX11 yX11_broken yX11_broken ∈ xWS := xw_mem (q := 3088) rfl rfl
theorem mw_898 : Cond.instanceMethod yX12_broken ∈ xWS := xw_mem (q := 5115) rfl rfl
theorem mw_899 : Cond.methodLink RL 85 yX12_broken ∈ xWS := xw_mem (q := 5114) rfl rfl
theorem mw_900 : Cond.selects RX12 yX12_broken yX12_broken ∈ xWS := xw_mem (q := 5116) rfl rfl
theorem mw_901 : Cond.instanceMethod yX11_undo ∈ xWS := xw_mem (q := 3099) rfl rfl
theorem mw_902 : Cond.methodLink RL 86 yX11_undo ∈ xWS := xw_mem (q := 3098) rfl rfl
theorem mw_903 : Cond.selects RX11 yX11_undo yX11_undo ∈ xWS := xw_mem (q := 3100) rfl rfl
theorem mw_904 : Cond.instanceMethod yX12_undo ∈ xWS := xw_mem (q := 5123) rfl rfl
theorem mw_905 : Cond.methodLink RL 89 yX12_undo ∈ xWS := xw_mem (q := 5122) rfl rfl
theorem mw_906 : Cond.selects RX12 yX12_undo yX12_undo ∈ xWS := xw_mem (q := 5124) rfl rfl
theorem mw_907 : Cond.instanceMethod yX11_keep ∈ xWS := xw_mem (q := 3103) rfl rfl
theorem mw_908 : Cond.methodLink RL 90 yX11_keep ∈ xWS := xw_mem (q := 3102) rfl rfl
theorem mw_909 : Cond.selects RX11 yX11_keep yX11_keep ∈ xWS := xw_mem (q := 3104) rfl rfl
theorem mw_910 : Cond.instanceMethod yX12_keep ∈ xWS := xw_mem (q := 5127) rfl rfl
theorem mw_911 : Cond.methodLink RL 93 yX12_keep ∈ xWS := xw_mem (q := 5126) rfl rfl
theorem mw_912 : Cond.selects RX12 yX12_keep yX12_keep ∈ xWS := xw_mem (q := 5128) rfl rfl
theorem mw_913 : Cond.instanceMethod yX11_on ∈ xWS := xw_mem (q := 3115) rfl rfl
theorem mw_914 : Cond.methodLink RL 94 yX11_on ∈ xWS := xw_mem (q := 3114) rfl rfl
theorem mw_915 : Cond.selects RX11 yX11_on yX11_on ∈ xWS := xw_mem (q := 3116) rfl rfl
theorem mw_916 : Cond.instanceMethod yX12_on ∈ xWS := xw_mem (q := 5131) rfl rfl
theorem mw_917 : Cond.methodLink RL 97 yX12_on ∈ xWS := xw_mem (q := 5130) rfl rfl
theorem mw_918 : Cond.selects RX12 yX12_on yX12_on ∈ xWS := xw_mem (q := 5132) rfl rfl
theorem mw_919 : Cond.instanceMethod yX11_show ∈ xWS := xw_mem (q := 3123) rfl rfl
theorem mw_920 : Cond.methodLink RL 98 yX11_show ∈ xWS := xw_mem (q := 3122) rfl rfl
theorem mw_921 : Cond.selects RX11 yX11_show yX11_show ∈ xWS := xw_mem (q := 3124) rfl rfl
theorem mw_922 : Cond.instanceMethod yX12_show ∈ xWS := xw_mem (q := 5135) rfl rfl
theorem mw_923 : Cond.methodLink RL 101 yX12_show ∈ xWS := xw_mem (q := 5134) rfl rfl
theorem mw_924 : Cond.selects RX12 yX12_show yX12_show ∈ xWS := xw_mem (q := 5136) rfl rfl
theorem mw_925 : Cond.instanceMethod yX11_breaks ∈ xWS := xw_mem (q := 3136) rfl rfl
theorem mw_926 : Cond.methodLink RL 102 yX11_breaks ∈ xWS := xw_mem (q := 3135) rfl rfl
theorem mw_927 : Cond.selects RX11 yX11_breaks yX11_breaks ∈ xWS := xw_mem (q := 3137) rfl rfl
theorem mw_928 : Cond.instanceMethod yX12_breaks ∈ xWS := xw_mem (q := 5147) rfl rfl
theorem mw_929 : Cond.methodLink RL 105 yX12_breaks ∈ xWS := xw_mem (q := 5146) rfl rfl
theorem mw_930 : Cond.selects RX12 yX12_breaks yX12_breaks ∈ xWS := xw_mem (q := 5148) rfl rfl
theorem mw_931 : Cond.instanceMethod yX11_alike ∈ xWS := xw_mem (q := 3145) rfl rfl
theorem mw_932 : Cond.methodLink RL 106 yX11_alike ∈ xWS := xw_mem (q := 3144) rfl rfl
theorem mw_933 : Cond.selects RX11 yX11_alike yX11_alike ∈ xWS := xw_mem (q := 3146) rfl rfl
theorem mw_934 : Cond.instanceMethod yX12_alike ∈ xWS := xw_mem (q := 5155) rfl rfl
theorem mw_935 : Cond.methodLink RL 109 yX12_alike ∈ xWS := xw_mem (q := 5154) rfl rfl
theorem mw_936 : Cond.selects RX12 yX12_alike yX12_alike ∈ xWS := xw_mem (q := 5156) rfl rfl
theorem mw_937 : Cond.instanceMethod yX11_fit ∈ xWS := xw_mem (q := 3149) rfl rfl
theorem mw_938 : Cond.methodLink RL 110 yX11_fit ∈ xWS := xw_mem (q := 3148) rfl rfl
theorem mw_939 : Cond.selects RX11 yX11_fit yX11_fit ∈ xWS := xw_mem (q := 3150) rfl rfl
theorem mw_940 : Cond.instanceMethod yX12_fit ∈ xWS := xw_mem (q := 5159) rfl rfl
theorem mw_941 : Cond.methodLink RL 113 yX12_fit ∈ xWS := xw_mem (q := 5158) rfl rfl
theorem mw_942 : Cond.selects RX12 yX12_fit yX12_fit ∈ xWS := xw_mem (q := 5160) rfl rfl
theorem mw_943 : Cond.instanceMethod yX11_ways ∈ xWS := xw_mem (q := 3156) rfl rfl
theorem mw_944 : Cond.methodLink RL 114 yX11_ways ∈ xWS := xw_mem (q := 3155) rfl rfl
theorem mw_945 : Cond.selects RX11 yX11_ways yX11_ways ∈ xWS := xw_mem (q := 3157) rfl rfl
theorem mw_946 : Cond.instanceMethod yX12_ways ∈ xWS := xw_mem (q := 5167) rfl rfl
theorem mw_947 : Cond.methodLink RL 117 yX12_ways ∈ xWS := xw_mem (q := 5166) rfl rfl
theorem mw_948 : Cond.selects RX12 yX12_ways yX12_ways ∈ xWS := xw_mem (q := 5168) rfl rfl
theorem mw_949 : Cond.instanceMethod yX11_first ∈ xWS := xw_mem (q := 3173) rfl rfl
theorem mw_950 : Cond.methodLink RL 118 yX11_first ∈ xWS := xw_mem (q := 3172) rfl rfl
theorem mw_951 : Cond.selects RX11 yX11_first yX11_first ∈ xWS := xw_mem (q := 3174) rfl rfl
theorem mw_952 : Cond.instanceMethod yX12_first ∈ xWS := xw_mem (q := 5186) rfl rfl
theorem mw_953 : Cond.methodLink RL 121 yX12_first ∈ xWS := xw_mem (q := 5185) rfl rfl
theorem mw_954 : Cond.selects RX12 yX12_first yX12_first ∈ xWS := xw_mem (q := 5187) rfl rfl
theorem mw_955 : Cond.instanceMethod yX11_can ∈ xWS := xw_mem (q := 3180) rfl rfl
theorem mw_956 : Cond.methodLink RL 122 yX11_can ∈ xWS := xw_mem (q := 3179) rfl rfl
theorem mw_957 : Cond.selects RX11 yX11_can yX11_can ∈ xWS := xw_mem (q := 3181) rfl rfl
theorem mw_958 : Cond.instanceMethod yX12_can ∈ xWS := xw_mem (q := 5190) rfl rfl
theorem mw_959 : Cond.methodLink RL 125 yX12_can ∈ xWS := xw_mem (q := 5189) rfl rfl
theorem mw_960 : Cond.selects RX12 yX12_can yX12_can ∈ xWS := xw_mem (q := 5191) rfl rfl
theorem mw_961 : Cond.instanceMethod yX11_laws ∈ xWS := xw_mem (q := 3184) rfl rfl
theorem mw_962 : Cond.methodLink RL 126 yX11_laws ∈ xWS := xw_mem (q := 3183) rfl rfl
theorem mw_963 : Cond.selects RX11 yX11_laws yX11_laws ∈ xWS := xw_mem (q := 3185) rfl rfl
theorem mw_964 : Cond.instanceMethod yX12_laws ∈ xWS := xw_mem (q := 5194) rfl rfl
theorem mw_965 : Cond.methodLink RL 129 yX12_laws ∈ xWS := xw_mem (q := 5193) rfl rfl
theorem mw_966 : Cond.selects RX12 yX12_laws yX12_laws ∈ xWS := xw_mem (q := 5195) rfl rfl
theorem mw_967 : Cond.instanceMethod yX11_next ∈ xWS := xw_mem (q := 3196) rfl rfl
theorem mw_968 : Cond.methodLink RL 130 yX11_next ∈ xWS := xw_mem (q := 3195) rfl rfl
theorem mw_969 : Cond.selects RX11 yX11_next yX11_next ∈ xWS := xw_mem (q := 3197) rfl rfl
theorem mw_970 : Cond.instanceMethod yX12_next ∈ xWS := xw_mem (q := 5202) rfl rfl
theorem mw_971 : Cond.methodLink RL 133 yX12_next ∈ xWS := xw_mem (q := 5201) rfl rfl
theorem mw_972 : Cond.selects RX12 yX12_next yX12_next ∈ xWS := xw_mem (q := 5203) rfl rfl
theorem mw_973 : Cond.instanceMethod yX11_he ∈ xWS := xw_mem (q := 3205) rfl rfl
theorem mw_974 : Cond.methodLink RL 134 yX11_he ∈ xWS := xw_mem (q := 3204) rfl rfl
theorem mw_975 : Cond.selects RX11 yX11_he yX11_he ∈ xWS := xw_mem (q := 3206) rfl rfl
theorem mw_976 : Cond.instanceMethod yX12_he ∈ xWS := xw_mem (q := 5212) rfl rfl
theorem mw_977 : Cond.methodLink RL 137 yX12_he ∈ xWS := xw_mem (q := 5211) rfl rfl
theorem mw_978 : Cond.selects RX12 yX12_he yX12_he ∈ xWS := xw_mem (q := 5213) rfl rfl
theorem mw_979 : Cond.instanceMethod yX11_keeps ∈ xWS := xw_mem (q := 3209) rfl rfl
theorem mw_980 : Cond.methodLink RL 138 yX11_keeps ∈ xWS := xw_mem (q := 3208) rfl rfl
theorem mw_981 : Cond.selects RX11 yX11_keeps yX11_keeps ∈ xWS := xw_mem (q := 3210) rfl rfl
theorem mw_982 : Cond.instanceMethod yX12_keeps ∈ xWS := xw_mem (q := 5216) rfl rfl
theorem mw_983 : Cond.methodLink RL 141 yX12_keeps ∈ xWS := xw_mem (q := 5215) rfl rfl
theorem mw_984 : Cond.selects RX12 yX12_keeps yX12_keeps ∈ xWS := xw_mem (q := 5217) rfl rfl
theorem mw_985 : Cond.instanceMethod yX11_still ∈ xWS := xw_mem (q := 4006) rfl rfl
theorem mw_986 : Cond.methodLink RL 142 yX11_still ∈ xWS := xw_mem (q := 4005) rfl rfl
theorem mw_987 : Cond.selects RX11 yX11_still yX11_still ∈ xWS := xw_mem (q := 4007) rfl rfl
theorem mw_988 : Cond.instanceMethod yX12_still ∈ xWS := xw_mem (q := 5224) rfl rfl
theorem mw_989 : Cond.methodLink RL 145 yX12_still ∈ xWS := xw_mem (q := 5223) rfl rfl
theorem mw_990 : Cond.selects RX12 yX12_still yX12_still ∈ xWS := xw_mem (q := 5225) rfl rfl
theorem mw_991 : Cond.instanceMethod yX11_game ∈ xWS := xw_mem (q := 4014) rfl rfl
theorem mw_992 : Cond.methodLink RL 146 yX11_game ∈ xWS := xw_mem (q := 4013) rfl rfl
theorem mw_993 : Cond.selects RX11 yX11_game yX11_game ∈ xWS := xw_mem (q := 4015) rfl rfl
theorem mw_994 : Cond.instanceMethod yX12_game ∈ xWS := xw_mem (q := 5228) rfl rfl
theorem mw_995 : Cond.methodLink RL 149 yX12_game ∈ xWS := xw_mem (q := 5227) rfl rfl
theorem mw_996 : Cond.selects RX12 yX12_game yX12_game ∈ xWS := xw_mem (q := 5229) rfl rfl
theorem mw_997 : Cond.instanceMethod yX11_picks ∈ xWS := xw_mem (q := 4026) rfl rfl
theorem mw_998 : Cond.methodLink RL 150 yX11_picks ∈ xWS := xw_mem (q := 4025) rfl rfl
theorem mw_999 : Cond.selects RX11 yX11_picks yX11_picks ∈ xWS := xw_mem (q := 4027) rfl rfl
theorem mw_1000 : Cond.instanceMethod yX12_picks ∈ xWS := xw_mem (q := 6000) rfl rfl
theorem mw_1001 : Cond.methodLink RL 153 yX12_picks ∈ xWS := xw_mem (q := 5239) rfl rfl
theorem mw_1002 : Cond.selects RX12 yX12_picks yX12_picks ∈ xWS := xw_mem (q := 6001) rfl rfl
theorem mw_1003 : Cond.instanceMethod yX11_odds ∈ xWS := xw_mem (q := 4030) rfl rfl
theorem mw_1004 : Cond.methodLink RL 154 yX11_odds ∈ xWS := xw_mem (q := 4029) rfl rfl
theorem mw_1005 : Cond.selects RX11 yX11_odds yX11_odds ∈ xWS := xw_mem (q := 4031) rfl rfl
theorem mw_1006 : Cond.instanceMethod yX12_odds ∈ xWS := xw_mem (q := 6004) rfl rfl
theorem mw_1007 : Cond.methodLink RL 157 yX12_odds ∈ xWS := xw_mem (q := 6003) rfl rfl
theorem mw_1008 : Cond.selects RX12 yX12_odds yX12_odds ∈ xWS := xw_mem (q := 6005) rfl rfl
theorem mw_1009 : Cond.instanceMethod yX11_mid ∈ xWS := xw_mem (q := 4039) rfl rfl
theorem mw_1010 : Cond.methodLink RL 158 yX11_mid ∈ xWS := xw_mem (q := 4038) rfl rfl
theorem mw_1011 : Cond.selects RX11 yX11_mid yX11_mid ∈ xWS := xw_mem (q := 4040) rfl rfl
theorem mw_1012 : Cond.instanceMethod yX12_mid ∈ xWS := xw_mem (q := 6009) rfl rfl
theorem mw_1013 : Cond.methodLink RL 161 yX12_mid ∈ xWS := xw_mem (q := 6008) rfl rfl
theorem mw_1014 : Cond.selects RX12 yX12_mid yX12_mid ∈ xWS := xw_mem (q := 6010) rfl rfl
theorem mw_1015 : Cond.instanceMethod yX11_lots ∈ xWS := xw_mem (q := 4043) rfl rfl
theorem mw_1016 : Cond.methodLink RL 162 yX11_lots ∈ xWS := xw_mem (q := 4042) rfl rfl
theorem mw_1017 : Cond.selects RX11 yX11_lots yX11_lots ∈ xWS := xw_mem (q := 4044) rfl rfl
theorem mw_1018 : Cond.instanceMethod yX12_lots ∈ xWS := xw_mem (q := 6013) rfl rfl
theorem mw_1019 : Cond.methodLink RL 165 yX12_lots ∈ xWS := xw_mem (q := 6012) rfl rfl
theorem mw_1020 : Cond.selects RX12 yX12_lots yX12_lots ∈ xWS := xw_mem (q := 6014) rfl rfl
theorem mw_1021 : Cond.instanceMethod yX11_asked ∈ xWS := xw_mem (q := 4051) rfl rfl
theorem mw_1022 : Cond.methodLink RL 166 yX11_asked ∈ xWS := xw_mem (q := 4050) rfl rfl
theorem mw_1023 : Cond.selects RX11 yX11_asked yX11_asked ∈ xWS := xw_mem (q := 4052) rfl rfl
theorem mw_1024 : Cond.instanceMethod yX12_asked ∈ xWS := xw_mem (q := 6022) rfl rfl
theorem mw_1025 : Cond.methodLink RL 169 yX12_asked ∈ xWS := xw_mem (q := 6021) rfl rfl
theorem mw_1026 : Cond.selects RX12 yX12_asked yX12_asked ∈ xWS := xw_mem (q := 6023) rfl rfl
theorem mw_1027 : Cond.instanceMethod yX11_upper ∈ xWS := xw_mem (q := 4055) rfl rfl
theorem mw_1028 : Cond.methodLink RL 170 yX11_upper ∈ xWS := xw_mem (q := 4054) rfl rfl
theorem mw_1029 : Cond.selects RX11 yX11_upper yX11_upper ∈ xWS := xw_mem (q := 4056) rfl rfl
theorem mw_1030 : Cond.instanceMethod yX12_upper ∈ xWS := xw_mem (q := 6026) rfl rfl
theorem mw_1031 : Cond.methodLink RL 174 yX12_upper ∈ xWS := xw_mem (q := 6025) rfl rfl
theorem mw_1032 : Cond.selects RX12 yX12_upper yX12_upper ∈ xWS := xw_mem (q := 6027) rfl rfl
theorem mw_1033 : Cond.instanceMethod yX11_lower ∈ xWS := xw_mem (q := 4059) rfl rfl
theorem mw_1034 : Cond.methodLink RL 175 yX11_lower ∈ xWS := xw_mem (q := 4058) rfl rfl
theorem mw_1035 : Cond.selects RX11 yX11_lower yX11_lower ∈ xWS := xw_mem (q := 4060) rfl rfl
theorem mw_1036 : Cond.instanceMethod yX12_lower ∈ xWS := xw_mem (q := 6030) rfl rfl
theorem mw_1037 : Cond.methodLink RL 178 yX12_lower ∈ xWS := xw_mem (q := 6029) rfl rfl
theorem mw_1038 : Cond.selects RX12 yX12_lower yX12_lower ∈ xWS := xw_mem (q := 6031) rfl rfl
theorem mw_1039 : Cond.methodLink RL 179 yX11_count ∈ xWS := xw_mem (q := 4062) rfl rfl
theorem mw_1040 : Cond.instanceMethod yX12_count ∈ xWS := xw_mem (q := 6034) rfl rfl
theorem mw_1041 : Cond.methodLink RL 182 yX12_count ∈ xWS := xw_mem (q := 6033) rfl rfl
theorem mw_1042 : Cond.selects RX12 yX12_count yX12_count ∈ xWS := xw_mem (q := 6035) rfl rfl
theorem mw_1043 : Cond.instanceMethod yX11_finding ∈ xWS := xw_mem (q := 4078) rfl rfl
theorem mw_1044 : Cond.methodLink RL 183 yX11_finding ∈ xWS := xw_mem (q := 4077) rfl rfl
theorem mw_1045 : Cond.selects RX11 yX11_finding yX11_finding ∈ xWS := xw_mem (q := 4079) rfl rfl
theorem mw_1046 : Cond.instanceMethod yX12_finding ∈ xWS := xw_mem (q := 6049) rfl rfl
theorem mw_1047 : Cond.methodLink RL 186 yX12_finding ∈ xWS := xw_mem (q := 6048) rfl rfl
theorem mw_1048 : Cond.selects RX12 yX12_finding yX12_finding ∈ xWS := xw_mem (q := 6050) rfl rfl
theorem mw_1049 : Cond.instanceMethod yX11_findings ∈ xWS := xw_mem (q := 4082) rfl rfl
theorem mw_1050 : Cond.methodLink RL 187 yX11_findings ∈ xWS := xw_mem (q := 4081) rfl rfl
theorem mw_1051 : Cond.selects RX11 yX11_findings yX11_findings ∈ xWS := xw_mem (q := 4083) rfl rfl
theorem mw_1052 : Cond.instanceMethod yX12_findings ∈ xWS := xw_mem (q := 6053) rfl rfl
theorem mw_1053 : Cond.methodLink RL 190 yX12_findings ∈ xWS := xw_mem (q := 6052) rfl rfl
theorem mw_1054 : Cond.selects RX12 yX12_findings yX12_findings ∈ xWS := xw_mem (q := 6054) rfl rfl
theorem mw_1055 : Cond.instanceMethod yX11_digest ∈ xWS := xw_mem (q := 4086) rfl rfl
theorem mw_1056 : Cond.methodLink RL 191 yX11_digest ∈ xWS := xw_mem (q := 4085) rfl rfl
theorem mw_1057 : Cond.selects RX11 yX11_digest yX11_digest ∈ xWS := xw_mem (q := 4087) rfl rfl
theorem mw_1058 : Cond.instanceMethod yX12_digest ∈ xWS := xw_mem (q := 6057) rfl rfl
theorem mw_1059 : Cond.methodLink RL 194 yX12_digest ∈ xWS := xw_mem (q := 6056) rfl rfl
theorem mw_1060 : Cond.selects RX12 yX12_digest yX12_digest ∈ xWS := xw_mem (q := 6058) rfl rfl
theorem mw_1061 : Cond.classLink RX11 9 RX0 ∈ xWS := xw_mem (q := 1025) rfl rfl
theorem mw_1062 : Cond.classLink RX11 18 RX7 ∈ xWS := xw_mem (q := 1027) rfl rfl
theorem mw_1063 : Cond.classLink RX11 24 RX2 ∈ xWS := xw_mem (q := 1029) rfl rfl
theorem mw_1064 : Cond.classLink RL 7 RX11 ∈ xWS := xw_mem (q := 1017) rfl rfl
theorem mw_1065 : Cond.instantiable RX11 16 ∈ xWS := xw_mem (q := 1018) rfl rfl
theorem mw_1066 : Cond.classLink RL 10 RX12 ∈ xWS := xw_mem (q := 4095) rfl rfl
theorem mw_1067 : Cond.instantiable RX12 32 ∈ xWS := xw_mem (q := 4096) rfl rfl
theorem mw_1068 : Cond.instantiable RX0 2 ∈ xWS := xw_mem (q := 1069) rfl rfl
theorem mw_1069 : Cond.instantiable RX7 2 ∈ xWS := xw_mem (q := 1161) rfl rfl
theorem mw_1070 : Cond.instantiable RX2 2 ∈ xWS := xw_mem (q := 1030) rfl rfl
theorem mw_1071 : Cond.classLink RX11 35 RX8 ∈ xWS := xw_mem (q := 1047) rfl rfl
theorem mw_1072 : Cond.instantiable RX8 5 ∈ xWS := xw_mem (q := 1048) rfl rfl
theorem mw_1073 : Cond.classLink RX11 59 RX1 ∈ xWS := xw_mem (q := 1084) rfl rfl
theorem mw_1074 : Cond.instantiable RX1 5 ∈ xWS := xw_mem (q := 1085) rfl rfl
theorem mw_1075 : Cond.classLink RX11 178 RX6 ∈ xWS := xw_mem (q := 1143) rfl rfl
theorem mw_1076 : Cond.instantiable RX6 2 ∈ xWS := xw_mem (q := 1144) rfl rfl
theorem mw_1077 : Cond.classLink RX11 310 RX5 ∈ xWS := xw_mem (q := 1109) rfl rfl
theorem mw_1078 : Cond.instantiable RX5 2 ∈ xWS := xw_mem (q := 1110) rfl rfl
theorem mw_1079 : Cond.classLink RX11 314 RX9 ∈ xWS := xw_mem (q := 1125) rfl rfl
theorem mw_1080 : Cond.instantiable RX9 2 ∈ xWS := xw_mem (q := 1126) rfl rfl
theorem mw_1081 : Cond.classLink RX11 317 RX10 ∈ xWS := xw_mem (q := 1134) rfl rfl
theorem mw_1082 : Cond.instantiable RX10 2 ∈ xWS := xw_mem (q := 1135) rfl rfl
theorem mw_1083 : Cond.classLink RX11 321 RX4 ∈ xWS := xw_mem (q := 1152) rfl rfl
theorem mw_1084 : Cond.instantiable RX4 2 ∈ xWS := xw_mem (q := 1153) rfl rfl
theorem mw_1085 : Cond.constant RJ6 265 (1431655765) ∈ xWS := xw_mem (q := 3033) rfl rfl
theorem mw_1086 : Cond.constant RJ6 266 (858993459) ∈ xWS := xw_mem (q := 3034) rfl rfl
theorem mw_1087 : Cond.constant RJ6 267 (252645135) ∈ xWS := xw_mem (q := 3035) rfl rfl
theorem mw_1088 : Cond.constantLong RX11 279 (12) ∈ xWS := xw_mem (q := 4037) rfl rfl
theorem mw_1089 : Cond.constantLong RX12 237 (12) ∈ xWS := xw_mem (q := 6007) rfl rfl
theorem mw_1090 : Cond.constantLong RX11 281 (2147483647) ∈ xWS := xw_mem (q := 4046) rfl rfl
theorem mw_1091 : Cond.constantLong RX11 283 (48271) ∈ xWS := xw_mem (q := 4047) rfl rfl
theorem mw_1092 : Cond.constantLong RX11 285 (8) ∈ xWS := xw_mem (q := 4048) rfl rfl
theorem mw_1093 : Cond.constantLong RX11 287 (6) ∈ xWS := xw_mem (q := 4049) rfl rfl
theorem mw_1094 : Cond.constant RX12 239 (2147483646) ∈ xWS := xw_mem (q := 6016) rfl rfl
theorem mw_1095 : Cond.constantLong RX12 240 (48271) ∈ xWS := xw_mem (q := 6017) rfl rfl
theorem mw_1096 : Cond.constantLong RX12 242 (2147483647) ∈ xWS := xw_mem (q := 6018) rfl rfl
theorem mw_1097 : Cond.constantLong RX12 244 (8) ∈ xWS := xw_mem (q := 6019) rfl rfl
theorem mw_1098 : Cond.constantLong RX12 246 (6) ∈ xWS := xw_mem (q := 6020) rfl rfl
theorem mw_1099 : Cond.constantLong RX11 299 (17) ∈ xWS := xw_mem (q := 4089) rfl rfl
theorem mw_1100 : Cond.constantLong RX11 301 (31) ∈ xWS := xw_mem (q := 4090) rfl rfl
theorem mw_1101 : Cond.constantLong RX12 263 (17) ∈ xWS := xw_mem (q := 6060) rfl rfl
theorem mw_1102 : Cond.constantLong RX12 258 (31) ∈ xWS := xw_mem (q := 6065) rfl rfl
theorem ml_0 : ∀ w ∈ u_ws RX0 TX0 2, w ∈ xWS := List.forall_mem_cons.mpr ⟨xw_mem (q := 1079) rfl rfl, List.forall_mem_cons.mpr ⟨xw_mem (q := 1081) rfl rfl, fun _ h => absurd h List.not_mem_nil⟩⟩
theorem ml_1 : ∀ w ∈ u_ws RX1 TX1 5, w ∈ xWS := List.forall_mem_cons.mpr ⟨xw_mem (q := 1095) rfl rfl, List.forall_mem_cons.mpr ⟨xw_mem (q := 1097) rfl rfl, List.forall_mem_cons.mpr ⟨xw_mem (q := 1099) rfl rfl, List.forall_mem_cons.mpr ⟨xw_mem (q := 1101) rfl rfl, List.forall_mem_cons.mpr ⟨xw_mem (q := 1103) rfl rfl, fun _ h => absurd h List.not_mem_nil⟩⟩⟩⟩⟩
theorem ml_2 : ∀ w ∈ u_ws RX2 TX2 2, w ∈ xWS := List.forall_mem_cons.mpr ⟨xw_mem (q := 1040) rfl rfl, List.forall_mem_cons.mpr ⟨xw_mem (q := 1042) rfl rfl, fun _ h => absurd h List.not_mem_nil⟩⟩
theorem ml_3 : ∀ w ∈ u_ws RX4 TX4 2, w ∈ xWS := List.forall_mem_cons.mpr ⟨xw_mem (q := 1158) rfl rfl, List.forall_mem_cons.mpr ⟨xw_mem (q := 1159) rfl rfl, fun _ h => absurd h List.not_mem_nil⟩⟩
theorem ml_4 : ∀ w ∈ u_ws RX5 TX5 2, w ∈ xWS := List.forall_mem_cons.mpr ⟨xw_mem (q := 1120) rfl rfl, List.forall_mem_cons.mpr ⟨xw_mem (q := 1122) rfl rfl, fun _ h => absurd h List.not_mem_nil⟩⟩
theorem ml_5 : ∀ w ∈ u_ws RX6 TX6 2, w ∈ xWS := List.forall_mem_cons.mpr ⟨xw_mem (q := 1149) rfl rfl, List.forall_mem_cons.mpr ⟨xw_mem (q := 1150) rfl rfl, fun _ h => absurd h List.not_mem_nil⟩⟩
theorem ml_6 : ∀ w ∈ u_ws RX7 TX7 2, w ∈ xWS := List.forall_mem_cons.mpr ⟨xw_mem (q := 1163) rfl rfl, List.forall_mem_cons.mpr ⟨xw_mem (q := 1164) rfl rfl, fun _ h => absurd h List.not_mem_nil⟩⟩
theorem ml_7 : ∀ w ∈ u_ws RX8 TX8 5, w ∈ xWS := List.forall_mem_cons.mpr ⟨xw_mem (q := 1058) rfl rfl, List.forall_mem_cons.mpr ⟨xw_mem (q := 1060) rfl rfl, List.forall_mem_cons.mpr ⟨xw_mem (q := 1062) rfl rfl, List.forall_mem_cons.mpr ⟨xw_mem (q := 1064) rfl rfl, List.forall_mem_cons.mpr ⟨xw_mem (q := 1066) rfl rfl, fun _ h => absurd h List.not_mem_nil⟩⟩⟩⟩⟩
theorem ml_8 : ∀ w ∈ u_ws RX9 TX9 2, w ∈ xWS := List.forall_mem_cons.mpr ⟨xw_mem (q := 1131) rfl rfl, List.forall_mem_cons.mpr ⟨xw_mem (q := 1132) rfl rfl, fun _ h => absurd h List.not_mem_nil⟩⟩
theorem ml_9 : ∀ w ∈ u_ws RX10 TX10 2, w ∈ xWS := List.forall_mem_cons.mpr ⟨xw_mem (q := 1140) rfl rfl, List.forall_mem_cons.mpr ⟨xw_mem (q := 1141) rfl rfl, fun _ h => absurd h List.not_mem_nil⟩⟩
theorem ml_10 : ∀ w ∈ u_ws RX11 TX11 16, w ∈ xWS := List.forall_mem_cons.mpr ⟨xw_mem (q := 1186) rfl rfl, List.forall_mem_cons.mpr ⟨xw_mem (q := 1188) rfl rfl, List.forall_mem_cons.mpr ⟨xw_mem (q := 1190) rfl rfl, List.forall_mem_cons.mpr ⟨xw_mem (q := 1192) rfl rfl, List.forall_mem_cons.mpr ⟨xw_mem (q := 1194) rfl rfl, List.forall_mem_cons.mpr ⟨xw_mem (q := 1196) rfl rfl, List.forall_mem_cons.mpr ⟨xw_mem (q := 1198) rfl rfl, List.forall_mem_cons.mpr ⟨xw_mem (q := 1200) rfl rfl, List.forall_mem_cons.mpr ⟨xw_mem (q := 1202) rfl rfl, List.forall_mem_cons.mpr ⟨xw_mem (q := 1204) rfl rfl, List.forall_mem_cons.mpr ⟨xw_mem (q := 1206) rfl rfl, List.forall_mem_cons.mpr ⟨xw_mem (q := 1208) rfl rfl, List.forall_mem_cons.mpr ⟨xw_mem (q := 1210) rfl rfl, List.forall_mem_cons.mpr ⟨xw_mem (q := 1212) rfl rfl, List.forall_mem_cons.mpr ⟨xw_mem (q := 1214) rfl rfl, List.forall_mem_cons.mpr ⟨xw_mem (q := 1216) rfl rfl, fun _ h => absurd h List.not_mem_nil⟩⟩⟩⟩⟩⟩⟩⟩⟩⟩⟩⟩⟩⟩⟩⟩
theorem ml_11 : ∀ w ∈ u_ws RX12 TX12 32, w ∈ xWS := List.forall_mem_cons.mpr ⟨xw_mem (q := 4133) rfl rfl, List.forall_mem_cons.mpr ⟨xw_mem (q := 4135) rfl rfl, List.forall_mem_cons.mpr ⟨xw_mem (q := 4137) rfl rfl, List.forall_mem_cons.mpr ⟨xw_mem (q := 4139) rfl rfl, List.forall_mem_cons.mpr ⟨xw_mem (q := 4141) rfl rfl, List.forall_mem_cons.mpr ⟨xw_mem (q := 4143) rfl rfl, List.forall_mem_cons.mpr ⟨xw_mem (q := 4145) rfl rfl, List.forall_mem_cons.mpr ⟨xw_mem (q := 4147) rfl rfl, List.forall_mem_cons.mpr ⟨xw_mem (q := 4149) rfl rfl, List.forall_mem_cons.mpr ⟨xw_mem (q := 4151) rfl rfl, List.forall_mem_cons.mpr ⟨xw_mem (q := 4153) rfl rfl, List.forall_mem_cons.mpr ⟨xw_mem (q := 4155) rfl rfl, List.forall_mem_cons.mpr ⟨xw_mem (q := 4157) rfl rfl, List.forall_mem_cons.mpr ⟨xw_mem (q := 4159) rfl rfl, List.forall_mem_cons.mpr ⟨xw_mem (q := 4161) rfl rfl, List.forall_mem_cons.mpr ⟨xw_mem (q := 4163) rfl rfl, List.forall_mem_cons.mpr ⟨xw_mem (q := 4165) rfl rfl, List.forall_mem_cons.mpr ⟨xw_mem (q := 4167) rfl rfl, List.forall_mem_cons.mpr ⟨xw_mem (q := 4169) rfl rfl, List.forall_mem_cons.mpr ⟨xw_mem (q := 4171) rfl rfl, List.forall_mem_cons.mpr ⟨xw_mem (q := 4173) rfl rfl, List.forall_mem_cons.mpr ⟨xw_mem (q := 4175) rfl rfl, List.forall_mem_cons.mpr ⟨xw_mem (q := 4177) rfl rfl, List.forall_mem_cons.mpr ⟨xw_mem (q := 4179) rfl rfl, List.forall_mem_cons.mpr ⟨xw_mem (q := 4181) rfl rfl, List.forall_mem_cons.mpr ⟨xw_mem (q := 4183) rfl rfl, List.forall_mem_cons.mpr ⟨xw_mem (q := 4185) rfl rfl, List.forall_mem_cons.mpr ⟨xw_mem (q := 4187) rfl rfl, List.forall_mem_cons.mpr ⟨xw_mem (q := 4189) rfl rfl, List.forall_mem_cons.mpr ⟨xw_mem (q := 4191) rfl rfl, List.forall_mem_cons.mpr ⟨xw_mem (q := 4193) rfl rfl, List.forall_mem_cons.mpr ⟨xw_mem (q := 4195) rfl rfl, fun _ h => absurd h List.not_mem_nil⟩⟩⟩⟩⟩⟩⟩⟩⟩⟩⟩⟩⟩⟩⟩⟩⟩⟩⟩⟩⟩⟩⟩⟩⟩⟩⟩⟩⟩⟩⟩⟩
