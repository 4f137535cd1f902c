/-! the words that are kept, by their places -/
def xWC : List (List Cond) := [k2_sels lw_privs, tables_1_1, tables_1_2, tables_1_3, tables_1_4, tables_1_5, tables_1_6]
def xw (q : Nat) : Option Cond := match xWC[q / 1000]? with
  | some r => r[q % 1000]?
  | none => none
def xWS : List Cond := lw_tbl.filter goodWord
theorem xWC_in : ∀ r ∈ xWC, ∀ w ∈ r, w ∈ lw_tbl := List.forall_mem_cons.mpr ⟨fun w h => List.mem_append_left _ h, List.forall_mem_cons.mpr ⟨fun w h => List.mem_append_right _ (List.mem_append_left _ h), List.forall_mem_cons.mpr ⟨fun w h => List.mem_append_right _ (List.mem_append_right _ (List.mem_append_left _ h)), List.forall_mem_cons.mpr ⟨fun w h => List.mem_append_right _ (List.mem_append_right _ (List.mem_append_right _ (List.mem_append_left _ h))), List.forall_mem_cons.mpr ⟨fun w h => List.mem_append_right _ (List.mem_append_right _ (List.mem_append_right _ (List.mem_append_right _ (List.mem_append_left _ h)))), List.forall_mem_cons.mpr ⟨fun w h => List.mem_append_right _ (List.mem_append_right _ (List.mem_append_right _ (List.mem_append_right _ (List.mem_append_right _ (List.mem_append_left _ h))))), List.forall_mem_cons.mpr ⟨fun w h => List.mem_append_right _ (List.mem_append_right _ (List.mem_append_right _ (List.mem_append_right _ (List.mem_append_right _ (List.mem_append_right _ (h)))))), fun _ h => absurd h List.not_mem_nil⟩⟩⟩⟩⟩⟩⟩
theorem xw_in {q : Nat} {w : Cond} (h : xw q = some w) : w ∈ lw_tbl := by
  unfold xw at h
  split at h
  · rename_i r hr
    exact xWC_in r (List.mem_of_getElem? hr) w (List.mem_of_getElem? h)
  · cases h
theorem xw_mem {q : Nat} {w : Cond} (h : xw q = some w) (hg : goodWord w = true) : w ∈ xWS := List.mem_filter.mpr ⟨xw_in h, hg⟩
theorem xWS_good {c : Cond} (hc : c ∈ xWS) : GoodIn xWS (c :: xWS) := fun w h => by
  have h1 : w ∈ xWS := (List.mem_cons.mp h).elim (fun e => e ▸ hc) id
  exact ⟨h1, good_of_word (List.mem_filter.mp h1).2⟩
theorem mw_0 : Cond.fieldLink RX11 11 "LimpMirror" "rows" "[LLimpMirror$Cells;" ∈ xWS := xw_mem (q := 1170) rfl rfl
theorem mw_1 : Cond.fieldLink RX11 15 "LimpMirror" "texts" "[LLimpMirror$Cells;" ∈ xWS := xw_mem (q := 1171) rfl rfl
theorem mw_2 : Cond.fieldLink RX11 20 "LimpMirror" "panes" "[LLimpMirror$Pane;" ∈ xWS := xw_mem (q := 1172) rfl rfl
theorem mw_3 : Cond.fieldLink RX11 27 "LimpMirror" "deeds" "LLimpMirror$Deeds;" ∈ xWS := xw_mem (q := 1173) rfl rfl
theorem mw_4 : Cond.fieldLink RX11 31 "LimpMirror" "kept" "[LLimpMirror$Deeds;" ∈ xWS := xw_mem (q := 1174) rfl rfl
theorem mw_5 : Cond.fieldLink RX11 38 "LimpMirror" "room" "LLimpMirror$Room;" ∈ xWS := xw_mem (q := 1175) rfl rfl
theorem mw_6 : Cond.fieldLink RX11 42 "LimpMirror" "draft" "LLimpMirror$Room;" ∈ xWS := xw_mem (q := 1176) rfl rfl
theorem mw_7 : Cond.fieldLink RX11 48 "LimpMirror" "trial" "LLimpMirror$Cells;" ∈ xWS := xw_mem (q := 1177) rfl rfl
theorem mw_8 : Cond.fieldLink RX11 52 "LimpMirror" "sets" "[I" ∈ xWS := xw_mem (q := 1178) rfl rfl
theorem mw_9 : Cond.fieldLink RX11 56 "LimpMirror" "tally" "[I" ∈ xWS := xw_mem (q := 1179) rfl rfl
theorem mw_10 : Cond.fieldLink RX11 62 "LimpMirror" "chains" "LLimpMirror$Chains;" ∈ xWS := xw_mem (q := 1180) rfl rfl
theorem mw_11 : Cond.fieldLink RX11 66 "LimpMirror" "told" "I" ∈ xWS := xw_mem (q := 1181) rfl rfl
theorem mw_12 : Cond.fieldLink RX11 70 "LimpMirror" "over" "J" ∈ xWS := xw_mem (q := 1182) rfl rfl
theorem mw_13 : Cond.fieldLink RX11 74 "LimpMirror" "under" "J" ∈ xWS := xw_mem (q := 1183) rfl rfl
theorem mw_14 : Cond.fieldLink RX11 77 "LimpMirror" "latestFinding" "I" ∈ xWS := xw_mem (q := 1184) rfl rfl
theorem mw_15 : Cond.fieldLink RX11 80 "LimpMirror" "findingCounts" "[I" ∈ xWS := xw_mem (q := 1185) rfl rfl
theorem mw_16 : Cond.fieldLink RX2 11 "LimpMirror$Deeds" "facts" "[I" ∈ xWS := xw_mem (q := 1038) rfl rfl
theorem mw_17 : Cond.fieldLink RX2 15 "LimpMirror$Deeds" "size" "I" ∈ xWS := xw_mem (q := 1039) rfl rfl
theorem mw_18 : Cond.fieldLink RX8 9 "LimpMirror$Room" "habits" "[I" ∈ xWS := xw_mem (q := 1053) rfl rfl
theorem mw_19 : Cond.fieldLink RX8 15 "LimpMirror$Room" "glassLaws" "[I" ∈ xWS := xw_mem (q := 1054) rfl rfl
theorem mw_20 : Cond.fieldLink RX8 18 "LimpMirror$Room" "glasses" "I" ∈ xWS := xw_mem (q := 1055) rfl rfl
theorem mw_21 : Cond.fieldLink RX8 22 "LimpMirror$Room" "termSteps" "[I" ∈ xWS := xw_mem (q := 1056) rfl rfl
theorem mw_22 : Cond.fieldLink RX8 25 "LimpMirror$Room" "terms" "I" ∈ xWS := xw_mem (q := 1057) rfl rfl
theorem mw_23 : Cond.fieldLink RX0 9 "LimpMirror$Cells" "size" "I" ∈ xWS := xw_mem (q := 1078) rfl rfl
theorem mw_24 : Cond.fieldLink RX0 21 "LimpMirror$Cells" "cells" "[I" ∈ xWS := xw_mem (q := 1077) rfl rfl
theorem mw_25 : Cond.fieldLink RX1 9 "LimpMirror$Chains" "rowsFrom" "[I" ∈ xWS := xw_mem (q := 1090) rfl rfl
theorem mw_26 : Cond.fieldLink RX1 15 "LimpMirror$Chains" "stillFrom" "[I" ∈ xWS := xw_mem (q := 1091) rfl rfl
theorem mw_27 : Cond.fieldLink RX1 18 "LimpMirror$Chains" "rows" "I" ∈ xWS := xw_mem (q := 1092) rfl rfl
theorem mw_28 : Cond.fieldLink RX1 22 "LimpMirror$Chains" "fewest" "I" ∈ xWS := xw_mem (q := 1093) rfl rfl
theorem mw_29 : Cond.fieldLink RX1 25 "LimpMirror$Chains" "firsts" "I" ∈ xWS := xw_mem (q := 1094) rfl rfl
theorem mw_30 : Cond.fieldLink RX7 9 "LimpMirror$Pane" "kind" "I" ∈ xWS := xw_mem (q := 1118) rfl rfl
theorem mw_31 : Cond.fieldLink RX7 15 "LimpMirror$Pane" "delay" "I" ∈ xWS := xw_mem (q := 1119) rfl rfl
theorem mw_32 : Cond.fieldLink RX12 7 "LimpMirrorModel" "rowSize" "[I" ∈ xWS := xw_mem (q := 4101) rfl rfl
theorem mw_33 : Cond.fieldLink RX12 13 "LimpMirrorModel" "rowAt" "[I" ∈ xWS := xw_mem (q := 4102) rfl rfl
theorem mw_34 : Cond.fieldLink RX12 16 "LimpMirrorModel" "textSize" "[I" ∈ xWS := xw_mem (q := 4103) rfl rfl
theorem mw_35 : Cond.fieldLink RX12 19 "LimpMirrorModel" "textAt" "[I" ∈ xWS := xw_mem (q := 4104) rfl rfl
theorem mw_36 : Cond.fieldLink RX12 22 "LimpMirrorModel" "readHabit" "[I" ∈ xWS := xw_mem (q := 4105) rfl rfl
theorem mw_37 : Cond.fieldLink RX12 25 "LimpMirrorModel" "readGlass" "[I" ∈ xWS := xw_mem (q := 4107) rfl rfl
theorem mw_38 : Cond.fieldLink RX12 28 "LimpMirrorModel" "readTerm" "[I" ∈ xWS := xw_mem (q := 4109) rfl rfl
theorem mw_39 : Cond.fieldLink RX12 31 "LimpMirrorModel" "habits" "[I" ∈ xWS := xw_mem (q := 4110) rfl rfl
theorem mw_40 : Cond.fieldLink RX12 34 "LimpMirrorModel" "glassAt" "[I" ∈ xWS := xw_mem (q := 4112) rfl rfl
theorem mw_41 : Cond.fieldLink RX12 37 "LimpMirrorModel" "termAt" "[I" ∈ xWS := xw_mem (q := 4114) rfl rfl
theorem mw_42 : Cond.fieldLink RX12 40 "LimpMirrorModel" "did" "[I" ∈ xWS := xw_mem (q := 4116) rfl rfl
theorem mw_43 : Cond.fieldLink RX12 43 "LimpMirrorModel" "before" "[I" ∈ xWS := xw_mem (q := 4117) rfl rfl
theorem mw_44 : Cond.fieldLink RX12 46 "LimpMirrorModel" "keptMany" "[I" ∈ xWS := xw_mem (q := 4118) rfl rfl
theorem mw_45 : Cond.fieldLink RX12 49 "LimpMirrorModel" "keptDid" "[I" ∈ xWS := xw_mem (q := 4119) rfl rfl
theorem mw_46 : Cond.fieldLink RX12 52 "LimpMirrorModel" "keptBefore" "[I" ∈ xWS := xw_mem (q := 4120) rfl rfl
theorem mw_47 : Cond.fieldLink RX12 55 "LimpMirrorModel" "lower" "J" ∈ xWS := xw_mem (q := 4123) rfl rfl
theorem mw_48 : Cond.fieldLink RX12 59 "LimpMirrorModel" "times" "[I" ∈ xWS := xw_mem (q := 4125) rfl rfl
theorem mw_49 : Cond.fieldLink RX12 62 "LimpMirrorModel" "doings" "[I" ∈ xWS := xw_mem (q := 4126) rfl rfl
theorem mw_50 : Cond.fieldLink RX12 65 "LimpMirrorModel" "other" "[I" ∈ xWS := xw_mem (q := 4127) rfl rfl
theorem mw_51 : Cond.fieldLink RX12 68 "LimpMirrorModel" "shown" "[I" ∈ xWS := xw_mem (q := 4128) rfl rfl
theorem mw_52 : Cond.fieldLink RX12 71 "LimpMirrorModel" "found" "I" ∈ xWS := xw_mem (q := 4124) rfl rfl
theorem mw_53 : Cond.fieldLink RX12 75 "LimpMirrorModel" "asked" "I" ∈ xWS := xw_mem (q := 4121) rfl rfl
theorem mw_54 : Cond.fieldLink RX12 106 "LimpMirrorModel" "position" "I" ∈ xWS := xw_mem (q := 4129) rfl rfl
theorem mw_55 : Cond.fieldLink RX12 112 "LimpMirrorModel" "from" "I" ∈ xWS := xw_mem (q := 4130) rfl rfl
theorem mw_56 : Cond.fieldLink RX12 109 "LimpMirrorModel" "size" "I" ∈ xWS := xw_mem (q := 4131) rfl rfl
theorem mw_57 : Cond.fieldLink RX12 125 "LimpMirrorModel" "readGlasses" "I" ∈ xWS := xw_mem (q := 4106) rfl rfl
theorem mw_58 : Cond.fieldLink RX12 128 "LimpMirrorModel" "readTerms" "I" ∈ xWS := xw_mem (q := 4108) rfl rfl
theorem mw_59 : Cond.fieldLink RX12 147 "LimpMirrorModel" "glasses" "I" ∈ xWS := xw_mem (q := 4111) rfl rfl
theorem mw_60 : Cond.fieldLink RX12 150 "LimpMirrorModel" "terms" "I" ∈ xWS := xw_mem (q := 4113) rfl rfl
theorem mw_61 : Cond.fieldLink RX12 153 "LimpMirrorModel" "deeds" "I" ∈ xWS := xw_mem (q := 4115) rfl rfl
theorem mw_62 : Cond.fieldLink RX12 78 "LimpMirrorModel" "upper" "J" ∈ xWS := xw_mem (q := 4122) rfl rfl
theorem mw_63 : Cond.fieldLink RX12 260 "LimpMirrorModel" "mix" "J" ∈ xWS := xw_mem (q := 4132) rfl rfl
theorem mw_64 : Cond.code yX0_init cX0_init 2 none ∈ xWS := xw_mem (q := 1072) rfl rfl
theorem mw_65 : Cond.initialized RX0 ∈ xWS := xw_mem (q := 1005) rfl rfl
theorem mw_66 : Cond.code yX0_isMissing cX0_isMissing 1 (some .boolean) ∈ xWS := xw_mem (q := 2007) rfl rfl
theorem mw_67 : Cond.code yX0_size cX0_size 1 (some .int) ∈ xWS := xw_mem (q := 2056) rfl rfl
theorem mw_68 : Cond.code yX0_open cX0_open 4 none ∈ xWS := xw_mem (q := 1233) rfl rfl
theorem mw_69 : Cond.code yX1_init cX1_init 1 none ∈ xWS := xw_mem (q := 1088) rfl rfl
theorem mw_70 : Cond.initialized RX1 ∈ xWS := xw_mem (q := 1007) rfl rfl
theorem mw_71 : Cond.code yX2_init cX2_init 1 none ∈ xWS := xw_mem (q := 1033) rfl rfl
theorem mw_72 : Cond.initialized RX2 ∈ xWS := xw_mem (q := 1003) rfl rfl
theorem mw_73 : Cond.code yX2_size cX2_size 1 (some .int) ∈ xWS := xw_mem (q := 2173) rfl rfl
theorem mw_74 : Cond.code yX2_isMissing cX2_isMissing 1 (some .boolean) ∈ xWS := xw_mem (q := 3121) rfl rfl
theorem mw_75 : Cond.code yX2_drop cX2_drop 1 none ∈ xWS := xw_mem (q := 1169) rfl rfl
theorem mw_76 : Cond.code yX2_cutTo cX2_cutTo 2 none ∈ xWS := xw_mem (q := 2109) rfl rfl
theorem mw_77 : Cond.code yX2_howManyBroke cX2_howManyBroke 4 (some .int) ∈ xWS := xw_mem (q := 3097) rfl rfl
theorem mw_78 : Cond.code yX2_firstThatBroke cX2_firstThatBroke 2 (some .int) ∈ xWS := xw_mem (q := 3093) rfl rfl
theorem mw_79 : Cond.code yX3_init cX3_init 1 none ∈ xWS := xw_mem (q := 1036) rfl rfl
theorem mw_80 : Cond.initialized RX3 ∈ xWS := xw_mem (q := 1002) rfl rfl
theorem mw_81 : Cond.code yX4_init cX4_init 3 none ∈ xWS := xw_mem (q := 1156) rfl rfl
theorem mw_82 : Cond.initialized RX4 ∈ xWS := xw_mem (q := 1013) rfl rfl
theorem mw_83 : Cond.code yX5_init cX5_init 3 none ∈ xWS := xw_mem (q := 1113) rfl rfl
theorem mw_84 : Cond.initialized RX5 ∈ xWS := xw_mem (q := 1009) rfl rfl
theorem mw_85 : Cond.code yX6_init cX6_init 3 none ∈ xWS := xw_mem (q := 1147) rfl rfl
theorem mw_86 : Cond.initialized RX6 ∈ xWS := xw_mem (q := 1012) rfl rfl
theorem mw_87 : Cond.code yX7_init cX7_init 3 none ∈ xWS := xw_mem (q := 1116) rfl rfl
theorem mw_88 : Cond.initialized RX7 ∈ xWS := xw_mem (q := 1008) rfl rfl
theorem mw_89 : Cond.code yX8_init cX8_init 1 none ∈ xWS := xw_mem (q := 1051) rfl rfl
theorem mw_90 : Cond.initialized RX8 ∈ xWS := xw_mem (q := 1004) rfl rfl
theorem mw_91 : Cond.code yX8_glasses cX8_glasses 1 (some .int) ∈ xWS := xw_mem (q := 2113) rfl rfl
theorem mw_92 : Cond.code yX8_terms cX8_terms 1 (some .int) ∈ xWS := xw_mem (q := 3051) rfl rfl
theorem mw_93 : Cond.code yX8_thought cX8_thought 2 (some .int) ∈ xWS := xw_mem (q := 3018) rfl rfl
theorem mw_94 : Cond.code yX9_init cX9_init 3 none ∈ xWS := xw_mem (q := 1129) rfl rfl
theorem mw_95 : Cond.initialized RX9 ∈ xWS := xw_mem (q := 1010) rfl rfl
theorem mw_96 : Cond.code yX10_init cX10_init 3 none ∈ xWS := xw_mem (q := 1138) rfl rfl
theorem mw_97 : Cond.initialized RX10 ∈ xWS := xw_mem (q := 1011) rfl rfl
theorem mw_98 : Cond.code yX11_init cX11_init 2 none ∈ xWS := xw_mem (q := 1021) rfl rfl
theorem mw_99 : Cond.initialized RX11 ∈ xWS := xw_mem (q := 1001) rfl rfl
theorem mw_100 : Cond.code yX11_row cX11_row 3 (some .int) ∈ xWS := xw_mem (q := 1222) rfl rfl
theorem mw_101 : Cond.code yX11_lay cX11_lay 5 (some .int) ∈ xWS := xw_mem (q := 2000) rfl rfl
theorem mw_102 : Cond.code yX11_at cX11_at 4 (some .int) ∈ xWS := xw_mem (q := 2024) rfl rfl
theorem mw_103 : Cond.code yX11_tear cX11_tear 2 (some .int) ∈ xWS := xw_mem (q := 2028) rfl rfl
theorem mw_104 : Cond.code yX11_copy cX11_copy 6 (some .int) ∈ xWS := xw_mem (q := 2036) rfl rfl
theorem mw_105 : Cond.code yX11_mean cX11_mean 7 (some .int) ∈ xWS := xw_mem (q := 2052) rfl rfl
theorem mw_106 : Cond.code yX11_text cX11_text 3 (some .int) ∈ xWS := xw_mem (q := 2060) rfl rfl
theorem mw_107 : Cond.code yX11_put cX11_put 6 (some .int) ∈ xWS := xw_mem (q := 2067) rfl rfl
theorem mw_108 : Cond.code yX11_fault cX11_fault 2 (some .int) ∈ xWS := xw_mem (q := 2071) rfl rfl
theorem mw_109 : Cond.code yX11_room cX11_room 4 (some .int) ∈ xWS := xw_mem (q := 2105) rfl rfl
theorem mw_110 : Cond.code yX11_glass cX11_glass 3 (some .int) ∈ xWS := xw_mem (q := 2117) rfl rfl
theorem mw_111 : Cond.code yX11_mark cX11_mark 5 (some .int) ∈ xWS := xw_mem (q := 2169) rfl rfl
theorem mw_112 : Cond.code yX11_habit cX11_habit 2 (some .int) ∈ xWS := xw_mem (q := 3041) rfl rfl
theorem mw_113 : Cond.code yX11_term cX11_term 3 (some .int) ∈ xWS := xw_mem (q := 3047) rfl rfl
theorem mw_114 : Cond.code yX11_step cX11_step 3 (some .int) ∈ xWS := xw_mem (q := 3059) rfl rfl
theorem mw_115 : Cond.code yX11_deed cX11_deed 3 (some .int) ∈ xWS := xw_mem (q := 3084) rfl rfl
theorem mw_116 : Cond.code yX11_broken cX11_broken 1 (some .int) ∈ xWS := xw_mem (q := 3089) rfl rfl
theorem mw_117 : Cond.code yX11_undo cX11_undo 3 (some .int) ∈ xWS := xw_mem (q := 3101) rfl rfl
theorem mw_118 : Cond.code yX11_keep cX11_keep 2 (some .int) ∈ xWS := xw_mem (q := 3105) rfl rfl
theorem mw_119 : Cond.code yX11_on cX11_on 2 (some .int) ∈ xWS := xw_mem (q := 3117) rfl rfl
theorem mw_120 : Cond.code yX11_show cX11_show 8 (some .int) ∈ xWS := xw_mem (q := 3125) rfl rfl
theorem mw_121 : Cond.code yX11_breaks cX11_breaks 8 (some .int) ∈ xWS := xw_mem (q := 3138) rfl rfl
theorem mw_122 : Cond.code yX11_alike cX11_alike 7 (some .int) ∈ xWS := xw_mem (q := 3147) rfl rfl
theorem mw_123 : Cond.code yX11_fit cX11_fit 7 (some .int) ∈ xWS := xw_mem (q := 3151) rfl rfl
theorem mw_124 : Cond.code yX11_ways cX11_ways 7 (some .int) ∈ xWS := xw_mem (q := 3158) rfl rfl
theorem mw_125 : Cond.code yX11_first cX11_first 7 (some .int) ∈ xWS := xw_mem (q := 3175) rfl rfl
theorem mw_126 : Cond.code yX11_can cX11_can 5 (some .int) ∈ xWS := xw_mem (q := 3182) rfl rfl
theorem mw_127 : Cond.code yX11_laws cX11_laws 4 (some .int) ∈ xWS := xw_mem (q := 3186) rfl rfl
theorem mw_128 : Cond.code yX11_next cX11_next 10 (some .int) ∈ xWS := xw_mem (q := 3198) rfl rfl
theorem mw_129 : Cond.code yX11_he cX11_he 7 (some .int) ∈ xWS := xw_mem (q := 3207) rfl rfl
theorem mw_130 : Cond.code yX11_keeps cX11_keeps 3 (some .int) ∈ xWS := xw_mem (q := 3211) rfl rfl
theorem mw_131 : Cond.code yX11_still cX11_still 3 (some .int) ∈ xWS := xw_mem (q := 4008) rfl rfl
theorem mw_132 : Cond.code yX11_game cX11_game 2 (some .int) ∈ xWS := xw_mem (q := 4016) rfl rfl
theorem mw_133 : Cond.code yX11_picks cX11_picks 2 (some .int) ∈ xWS := xw_mem (q := 4028) rfl rfl
theorem mw_134 : Cond.code yX11_odds cX11_odds 10 (some .int) ∈ xWS := xw_mem (q := 4032) rfl rfl
theorem mw_135 : Cond.code yX11_mid cX11_mid 8 (some .int) ∈ xWS := xw_mem (q := 4041) rfl rfl
theorem mw_136 : Cond.code yX11_lots cX11_lots 8 (some .int) ∈ xWS := xw_mem (q := 4045) rfl rfl
theorem mw_137 : Cond.code yX11_asked cX11_asked 1 (some .int) ∈ xWS := xw_mem (q := 4053) rfl rfl
theorem mw_138 : Cond.code yX11_upper cX11_upper 1 (some .long) ∈ xWS := xw_mem (q := 4057) rfl rfl
theorem mw_139 : Cond.code yX11_lower cX11_lower 1 (some .long) ∈ xWS := xw_mem (q := 4061) rfl rfl
theorem mw_140 : Cond.code yX11_count cX11_count 2 (some .int) ∈ xWS := xw_mem (q := 4065) rfl rfl
theorem mw_141 : Cond.code yX11_finding cX11_finding 1 (some .int) ∈ xWS := xw_mem (q := 4080) rfl rfl
theorem mw_142 : Cond.code yX11_findings cX11_findings 2 (some .int) ∈ xWS := xw_mem (q := 4084) rfl rfl
theorem mw_143 : Cond.code yX11_digest cX11_digest 5 (some .long) ∈ xWS := xw_mem (q := 4088) rfl rfl
theorem mw_144 : Cond.code yX11_refuse cX11_refuse 2 (some .int) ∈ xWS := xw_mem (q := 1229) rfl rfl
theorem mw_145 : Cond.code yX11_isRow cX11_isRow 1 (some .boolean) ∈ xWS := xw_mem (q := 1225) rfl rfl
theorem mw_146 : Cond.code yX11_isText cX11_isText 1 (some .boolean) ∈ xWS := xw_mem (q := 2063) rfl rfl
theorem mw_147 : Cond.code yX11_isKept cX11_isKept 1 (some .boolean) ∈ xWS := xw_mem (q := 3108) rfl rfl
theorem mw_148 : Cond.code yX11_isStep cX11_isStep 1 (some .boolean) ∈ xWS := xw_mem (q := 3021) rfl rfl
theorem mw_149 : Cond.code yX11_isGlass cX11_isGlass 2 (some .boolean) ∈ xWS := xw_mem (q := 2121) rfl rfl
theorem mw_150 : Cond.code yX11_findingOfPlace cX11_findingOfPlace 2 (some .int) ∈ xWS := xw_mem (q := 2003) rfl rfl
theorem mw_151 : Cond.code yX11_findingOfSteps cX11_findingOfSteps 3 (some .int) ∈ xWS := xw_mem (q := 3128) rfl rfl
theorem mw_152 : Cond.code yX11_findingOfPair cX11_findingOfPair 4 (some .int) ∈ xWS := xw_mem (q := 3154) rfl rfl
theorem mw_153 : Cond.code yX11_newPane cX11_newPane 2 (some (.object "LimpMirror$Pane")) ∈ xWS := xw_mem (q := 1108) rfl rfl
theorem mw_154 : Cond.code yX11_glassesOf cX11_glassesOf 4 (some .int) ∈ xWS := xw_mem (q := 4069) rfl rfl
theorem mw_155 : Cond.code yX11_keptOnes cX11_keptOnes 3 (some .int) ∈ xWS := xw_mem (q := 4076) rfl rfl
theorem mw_156 : Cond.code yX11_howManyThere cX11_howManyThere 3 (some .int) ∈ xWS := xw_mem (q := 4072) rfl rfl
theorem mw_157 : Cond.code yX11_digestOf cX11_digestOf 7 (some .long) ∈ xWS := xw_mem (q := 4094) rfl rfl
theorem mw_158 : Cond.code yX12_init cX12_init 2 none ∈ xWS := xw_mem (q := 4099) rfl rfl
theorem mw_159 : Cond.initialized RX12 ∈ xWS := xw_mem (q := 1014) rfl rfl
theorem mw_160 : Cond.code yX12_in cX12_in 3 (some .boolean) ∈ xWS := xw_mem (q := 4207) rfl rfl
theorem mw_161 : Cond.code yX12_finds cX12_finds 2 (some .int) ∈ xWS := xw_mem (q := 4211) rfl rfl
theorem mw_162 : Cond.code yX12_isRow cX12_isRow 1 (some .boolean) ∈ xWS := xw_mem (q := 4204) rfl rfl
theorem mw_163 : Cond.code yX12_isText cX12_isText 1 (some .boolean) ∈ xWS := xw_mem (q := 5009) rfl rfl
theorem mw_164 : Cond.code yX12_row cX12_row 4 (some .int) ∈ xWS := xw_mem (q := 4201) rfl rfl
theorem mw_165 : Cond.code yX12_wrongAt cX12_wrongAt 3 (some .int) ∈ xWS := xw_mem (q := 4219) rfl rfl
theorem mw_166 : Cond.code yX12_lay cX12_lay 6 (some .int) ∈ xWS := xw_mem (q := 4215) rfl rfl
theorem mw_167 : Cond.code yX12_at cX12_at 4 (some .int) ∈ xWS := xw_mem (q := 4227) rfl rfl
theorem mw_168 : Cond.code yX12_tear cX12_tear 2 (some .int) ∈ xWS := xw_mem (q := 4231) rfl rfl
theorem mw_169 : Cond.code yX12_copy cX12_copy 9 (some .int) ∈ xWS := xw_mem (q := 4235) rfl rfl
theorem mw_170 : Cond.code yX12_mean cX12_mean 5 (some .int) ∈ xWS := xw_mem (q := 5002) rfl rfl
theorem mw_171 : Cond.code yX12_text cX12_text 4 (some .int) ∈ xWS := xw_mem (q := 5006) rfl rfl
theorem mw_172 : Cond.code yX12_put cX12_put 5 (some .int) ∈ xWS := xw_mem (q := 5013) rfl rfl
theorem mw_173 : Cond.code yX12_fault cX12_fault 2 (some .int) ∈ xWS := xw_mem (q := 5017) rfl rfl
theorem mw_174 : Cond.code yX12_room cX12_room 3 (some .int) ∈ xWS := xw_mem (q := 5052) rfl rfl
theorem mw_175 : Cond.code yX12_isGlass cX12_isGlass 2 (some .boolean) ∈ xWS := xw_mem (q := 5060) rfl rfl
theorem mw_176 : Cond.code yX12_isStep cX12_isStep 1 (some .boolean) ∈ xWS := xw_mem (q := 5097) rfl rfl
theorem mw_177 : Cond.code yX12_glass cX12_glass 5 (some .int) ∈ xWS := xw_mem (q := 5056) rfl rfl
theorem mw_178 : Cond.code yX12_mark cX12_mark 5 (some .int) ∈ xWS := xw_mem (q := 5087) rfl rfl
theorem mw_179 : Cond.code yX12_habit cX12_habit 2 (some .int) ∈ xWS := xw_mem (q := 5094) rfl rfl
theorem mw_180 : Cond.code yX12_term cX12_term 3 (some .int) ∈ xWS := xw_mem (q := 5101) rfl rfl
theorem mw_181 : Cond.code yX12_step cX12_step 3 (some .int) ∈ xWS := xw_mem (q := 5105) rfl rfl
theorem mw_182 : Cond.code yX12_deed cX12_deed 3 (some .int) ∈ xWS := xw_mem (q := 5113) rfl rfl
theorem mw_183 : Cond.code yX12_brokenMany cX12_brokenMany 3 (some .int) ∈ xWS := xw_mem (q := 5121) rfl rfl
theorem mw_184 : Cond.code yX12_broken cX12_broken 3 (some .int) ∈ xWS := xw_mem (q := 5117) rfl rfl
theorem mw_185 : Cond.code yX12_undo cX12_undo 3 (some .int) ∈ xWS := xw_mem (q := 5125) rfl rfl
theorem mw_186 : Cond.code yX12_keep cX12_keep 3 (some .int) ∈ xWS := xw_mem (q := 5129) rfl rfl
theorem mw_187 : Cond.code yX12_on cX12_on 3 (some .int) ∈ xWS := xw_mem (q := 5133) rfl rfl
theorem mw_188 : Cond.code yX12_takeOut cX12_takeOut 6 (some .int) ∈ xWS := xw_mem (q := 5141) rfl rfl
theorem mw_189 : Cond.code yX12_takeTwo cX12_takeTwo 4 (some .int) ∈ xWS := xw_mem (q := 5165) rfl rfl
theorem mw_190 : Cond.code yX12_show cX12_show 7 (some .int) ∈ xWS := xw_mem (q := 5137) rfl rfl
theorem mw_191 : Cond.code yX12_breaks cX12_breaks 8 (some .int) ∈ xWS := xw_mem (q := 5149) rfl rfl
theorem mw_192 : Cond.code yX12_alike cX12_alike 6 (some .int) ∈ xWS := xw_mem (q := 5157) rfl rfl
theorem mw_193 : Cond.code yX12_fit cX12_fit 7 (some .int) ∈ xWS := xw_mem (q := 5161) rfl rfl
theorem mw_194 : Cond.code yX12_ways cX12_ways 7 (some .int) ∈ xWS := xw_mem (q := 5169) rfl rfl
theorem mw_195 : Cond.code yX12_first cX12_first 7 (some .int) ∈ xWS := xw_mem (q := 5188) rfl rfl
theorem mw_196 : Cond.code yX12_can cX12_can 8 (some .int) ∈ xWS := xw_mem (q := 5192) rfl rfl
theorem mw_197 : Cond.code yX12_laws cX12_laws 4 (some .int) ∈ xWS := xw_mem (q := 5196) rfl rfl
theorem mw_198 : Cond.code yX12_next cX12_next 13 (some .int) ∈ xWS := xw_mem (q := 5204) rfl rfl
theorem mw_199 : Cond.code yX12_he cX12_he 9 (some .int) ∈ xWS := xw_mem (q := 5214) rfl rfl
theorem mw_200 : Cond.code yX12_keeps cX12_keeps 6 (some .int) ∈ xWS := xw_mem (q := 5218) rfl rfl
theorem mw_201 : Cond.code yX12_still cX12_still 7 (some .int) ∈ xWS := xw_mem (q := 5226) rfl rfl
theorem mw_202 : Cond.code yX12_game cX12_game 2 (some .int) ∈ xWS := xw_mem (q := 5230) rfl rfl
theorem mw_203 : Cond.code yX12_picks cX12_picks 2 (some .int) ∈ xWS := xw_mem (q := 6002) rfl rfl
theorem mw_204 : Cond.code yX12_odds cX12_odds 10 (some .int) ∈ xWS := xw_mem (q := 6006) rfl rfl
theorem mw_205 : Cond.code yX12_mid cX12_mid 8 (some .int) ∈ xWS := xw_mem (q := 6011) rfl rfl
theorem mw_206 : Cond.code yX12_lots cX12_lots 7 (some .int) ∈ xWS := xw_mem (q := 6015) rfl rfl
theorem mw_207 : Cond.code yX12_asked cX12_asked 1 (some .int) ∈ xWS := xw_mem (q := 6024) rfl rfl
theorem mw_208 : Cond.code yX12_upper cX12_upper 1 (some .long) ∈ xWS := xw_mem (q := 6028) rfl rfl
theorem mw_209 : Cond.code yX12_lower cX12_lower 1 (some .long) ∈ xWS := xw_mem (q := 6032) rfl rfl
theorem mw_210 : Cond.code yX12_kindsOf cX12_kindsOf 4 (some .int) ∈ xWS := xw_mem (q := 6044) rfl rfl
theorem mw_211 : Cond.code yX12_thereOf cX12_thereOf 4 (some .int) ∈ xWS := xw_mem (q := 6047) rfl rfl
theorem mw_212 : Cond.code yX12_countOf cX12_countOf 2 (some .int) ∈ xWS := xw_mem (q := 6040) rfl rfl
theorem mw_213 : Cond.code yX12_count cX12_count 2 (some .int) ∈ xWS := xw_mem (q := 6036) rfl rfl
theorem mw_214 : Cond.code yX12_finding cX12_finding 1 (some .int) ∈ xWS := xw_mem (q := 6051) rfl rfl
theorem mw_215 : Cond.code yX12_findings cX12_findings 2 (some .int) ∈ xWS := xw_mem (q := 6055) rfl rfl
theorem mw_216 : Cond.code yX12_add cX12_add 2 none ∈ xWS := xw_mem (q := 6064) rfl rfl
theorem mw_217 : Cond.code yX12_digest cX12_digest 5 (some .long) ∈ xWS := xw_mem (q := 6059) rfl rfl
theorem mw_218 : Cond.instanceMethod yX3_init ∈ xWS := xw_mem (q := 1035) rfl rfl
theorem mw_219 : Cond.methodLink RX0 15 Lib.Math.max.name ∈ xWS := xw_mem (q := 1074) rfl rfl
theorem mw_220 : Cond.static Lib.Math.max.name ∈ xWS := xw_mem (q := 1075) rfl rfl
theorem mw_221 : Cond.initialized "java/lang/Math" ∈ xWS := xw_mem (q := 1006) rfl rfl
theorem mw_222 : Cond.code Lib.Math.max.name Lib.Math.max.code 2 (some .int) ∈ xWS := xw_mem (q := 1076) rfl rfl
theorem mw_223 : Cond.methodLink RX0 29 Lib.Math.min.name ∈ xWS := xw_mem (q := 1234) rfl rfl
theorem mw_224 : Cond.static Lib.Math.min.name ∈ xWS := xw_mem (q := 1235) rfl rfl
theorem mw_225 : Cond.code Lib.Math.min.name Lib.Math.min.code 2 (some .int) ∈ xWS := xw_mem (q := 1236) rfl rfl
theorem mw_226 : Cond.methodLink RX1 3 objectInit ∈ xWS := xw_mem (q := 1089) rfl rfl
theorem mw_227 : Cond.instanceMethod objectInit ∈ xWS := xw_mem (q := 1023) rfl rfl
theorem mw_228 : Cond.code objectInit ⟨#[0xb1]⟩ 1 none ∈ xWS := xw_mem (q := 1024) rfl rfl
theorem mw_229 : Cond.methodLink RX3 1 objectInit ∈ xWS := xw_mem (q := 1037) rfl rfl
theorem mw_230 : Cond.methodLink RX4 1 yX9_init ∈ xWS := xw_mem (q := 1157) rfl rfl
theorem mw_231 : Cond.instanceMethod yX9_init ∈ xWS := xw_mem (q := 1128) rfl rfl
theorem mw_232 : Cond.methodLink RX5 3 yX7_init ∈ xWS := xw_mem (q := 1114) rfl rfl
theorem mw_233 : Cond.instanceMethod yX7_init ∈ xWS := xw_mem (q := 1115) rfl rfl
theorem mw_234 : Cond.methodLink RX6 3 yX5_init ∈ xWS := xw_mem (q := 1148) rfl rfl
theorem mw_235 : Cond.instanceMethod yX5_init ∈ xWS := xw_mem (q := 1112) rfl rfl
theorem mw_236 : Cond.methodLink RX7 3 objectInit ∈ xWS := xw_mem (q := 1117) rfl rfl
theorem mw_237 : Cond.methodLink RX8 3 objectInit ∈ xWS := xw_mem (q := 1052) rfl rfl
theorem mw_238 : Cond.static yX11_isStep ∈ xWS := xw_mem (q := 3020) rfl rfl
theorem mw_239 : Cond.methodLink RX9 3 yX7_init ∈ xWS := xw_mem (q := 1130) rfl rfl
theorem mw_240 : Cond.methodLink RX10 1 yX7_init ∈ xWS := xw_mem (q := 1139) rfl rfl
theorem mw_241 : Cond.methodLink RX11 1 objectInit ∈ xWS := xw_mem (q := 1022) rfl rfl
theorem mw_242 : Cond.instanceMethod yX2_init ∈ xWS := xw_mem (q := 1032) rfl rfl
theorem mw_243 : Cond.instanceMethod yX8_init ∈ xWS := xw_mem (q := 1050) rfl rfl
theorem mw_244 : Cond.methodLink RX11 45 yX0_init ∈ xWS := xw_mem (q := 1070) rfl rfl
theorem mw_245 : Cond.instanceMethod yX0_init ∈ xWS := xw_mem (q := 1071) rfl rfl
theorem mw_246 : Cond.instanceMethod yX1_init ∈ xWS := xw_mem (q := 1087) rfl rfl
theorem mw_247 : Cond.methodLink RX11 83 yX11_newPane ∈ xWS := xw_mem (q := 1106) rfl rfl
theorem mw_248 : Cond.static yX11_newPane ∈ xWS := xw_mem (q := 1107) rfl rfl
theorem mw_249 : Cond.methodLink RX11 87 yX2_drop ∈ xWS := xw_mem (q := 1166) rfl rfl
theorem mw_250 : Cond.instanceMethod yX2_drop ∈ xWS := xw_mem (q := 1167) rfl rfl
theorem mw_251 : Cond.selects RX2 yX2_drop yX2_drop ∈ xWS := xw_mem (q := 1168) rfl rfl
theorem mw_252 : Cond.methodLink RX11 90 yX11_isRow ∈ xWS := xw_mem (q := 1223) rfl rfl
theorem mw_253 : Cond.static yX11_isRow ∈ xWS := xw_mem (q := 1224) rfl rfl
theorem mw_254 : Cond.methodLink RX11 94 yX11_refuse ∈ xWS := xw_mem (q := 1226) rfl rfl
theorem mw_255 : Cond.instanceMethod yX11_refuse ∈ xWS := xw_mem (q := 1228) rfl rfl
theorem mw_256 : Cond.selects RX11 yX11_refuse yX11_refuse ∈ xWS := xw_mem (q := 0) rfl rfl
theorem mw_257 : Cond.methodLink RX11 98 yX0_open ∈ xWS := xw_mem (q := 1230) rfl rfl
theorem mw_258 : Cond.instanceMethod yX0_open ∈ xWS := xw_mem (q := 1231) rfl rfl
theorem mw_259 : Cond.selects RX0 yX0_open yX0_open ∈ xWS := xw_mem (q := 1232) rfl rfl
theorem mw_260 : Cond.methodLink RX11 102 yX11_findingOfPlace ∈ xWS := xw_mem (q := 2001) rfl rfl
theorem mw_261 : Cond.static yX11_findingOfPlace ∈ xWS := xw_mem (q := 2002) rfl rfl
theorem mw_262 : Cond.methodLink RX11 112 yX0_isMissing ∈ xWS := xw_mem (q := 2004) rfl rfl
theorem mw_263 : Cond.instanceMethod yX0_isMissing ∈ xWS := xw_mem (q := 2005) rfl rfl
theorem mw_264 : Cond.selects RX0 yX0_isMissing yX0_isMissing ∈ xWS := xw_mem (q := 2006) rfl rfl
theorem mw_265 : Cond.methodLink RX11 125 yX0_size ∈ xWS := xw_mem (q := 2053) rfl rfl
theorem mw_266 : Cond.instanceMethod yX0_size ∈ xWS := xw_mem (q := 2054) rfl rfl
theorem mw_267 : Cond.selects RX0 yX0_size yX0_size ∈ xWS := xw_mem (q := 2055) rfl rfl
theorem mw_268 : Cond.methodLink RX11 129 yX11_isText ∈ xWS := xw_mem (q := 2061) rfl rfl
theorem mw_269 : Cond.static yX11_isText ∈ xWS := xw_mem (q := 2062) rfl rfl
theorem mw_270 : Cond.methodLink RX11 136 yX2_cutTo ∈ xWS := xw_mem (q := 2106) rfl rfl
theorem mw_271 : Cond.instanceMethod yX2_cutTo ∈ xWS := xw_mem (q := 2107) rfl rfl
theorem mw_272 : Cond.selects RX2 yX2_cutTo yX2_cutTo ∈ xWS := xw_mem (q := 2108) rfl rfl
theorem mw_273 : Cond.methodLink RX11 139 yX8_glasses ∈ xWS := xw_mem (q := 2110) rfl rfl
theorem mw_274 : Cond.instanceMethod yX8_glasses ∈ xWS := xw_mem (q := 2111) rfl rfl
theorem mw_275 : Cond.selects RX8 yX8_glasses yX8_glasses ∈ xWS := xw_mem (q := 2112) rfl rfl
theorem mw_276 : Cond.methodLink RX11 142 yX11_isGlass ∈ xWS := xw_mem (q := 2118) rfl rfl
theorem mw_277 : Cond.instanceMethod yX11_isGlass ∈ xWS := xw_mem (q := 2120) rfl rfl
theorem mw_278 : Cond.selects RX11 yX11_isGlass yX11_isGlass ∈ xWS := xw_mem (q := 4) rfl rfl
theorem mw_279 : Cond.methodLink RX11 153 yX2_size ∈ xWS := xw_mem (q := 2170) rfl rfl
theorem mw_280 : Cond.instanceMethod yX2_size ∈ xWS := xw_mem (q := 2171) rfl rfl
theorem mw_281 : Cond.selects RX2 yX2_size yX2_size ∈ xWS := xw_mem (q := 2172) rfl rfl
theorem mw_282 : Cond.methodLink RX11 185 yX11_isStep ∈ xWS := xw_mem (q := 3042) rfl rfl
theorem mw_283 : Cond.methodLink RX11 188 yX8_thought ∈ xWS := xw_mem (q := 3043) rfl rfl
theorem mw_284 : Cond.instanceMethod yX8_thought ∈ xWS := xw_mem (q := 3016) rfl rfl
theorem mw_285 : Cond.selects RX8 yX8_thought yX8_thought ∈ xWS := xw_mem (q := 3017) rfl rfl
theorem mw_286 : Cond.methodLink RX11 191 yX8_terms ∈ xWS := xw_mem (q := 3048) rfl rfl
theorem mw_287 : Cond.instanceMethod yX8_terms ∈ xWS := xw_mem (q := 3049) rfl rfl
theorem mw_288 : Cond.selects RX8 yX8_terms yX8_terms ∈ xWS := xw_mem (q := 3050) rfl rfl
theorem mw_289 : Cond.methodLink RX11 203 yX2_firstThatBroke ∈ xWS := xw_mem (q := 3090) rfl rfl
theorem mw_290 : Cond.instanceMethod yX2_firstThatBroke ∈ xWS := xw_mem (q := 3091) rfl rfl
theorem mw_291 : Cond.selects RX2 yX2_firstThatBroke yX2_firstThatBroke ∈ xWS := xw_mem (q := 3092) rfl rfl
theorem mw_292 : Cond.methodLink RX11 206 yX2_howManyBroke ∈ xWS := xw_mem (q := 3094) rfl rfl
theorem mw_293 : Cond.instanceMethod yX2_howManyBroke ∈ xWS := xw_mem (q := 3095) rfl rfl
theorem mw_294 : Cond.selects RX2 yX2_howManyBroke yX2_howManyBroke ∈ xWS := xw_mem (q := 3096) rfl rfl
theorem mw_295 : Cond.methodLink RX11 209 yX11_isKept ∈ xWS := xw_mem (q := 3106) rfl rfl
theorem mw_296 : Cond.static yX11_isKept ∈ xWS := xw_mem (q := 3107) rfl rfl
theorem mw_297 : Cond.methodLink RX11 216 yX2_isMissing ∈ xWS := xw_mem (q := 3118) rfl rfl
theorem mw_298 : Cond.instanceMethod yX2_isMissing ∈ xWS := xw_mem (q := 3119) rfl rfl
theorem mw_299 : Cond.selects RX2 yX2_isMissing yX2_isMissing ∈ xWS := xw_mem (q := 3120) rfl rfl
theorem mw_300 : Cond.methodLink RX11 217 yX11_findingOfSteps ∈ xWS := xw_mem (q := 3126) rfl rfl
theorem mw_301 : Cond.static yX11_findingOfSteps ∈ xWS := xw_mem (q := 3127) rfl rfl
theorem mw_302 : Cond.methodLink RX11 226 yX11_findingOfPair ∈ xWS := xw_mem (q := 3152) rfl rfl
theorem mw_303 : Cond.static yX11_findingOfPair ∈ xWS := xw_mem (q := 3153) rfl rfl
theorem mw_304 : Cond.methodLink RX11 255 Lib.Math.min.name ∈ xWS := xw_mem (q := 3163) rfl rfl
theorem mw_305 : Cond.methodLink RX11 289 yX11_glassesOf ∈ xWS := xw_mem (q := 4066) rfl rfl
theorem mw_306 : Cond.instanceMethod yX11_glassesOf ∈ xWS := xw_mem (q := 4068) rfl rfl
theorem mw_307 : Cond.selects RX11 yX11_glassesOf yX11_glassesOf ∈ xWS := xw_mem (q := 20) rfl rfl
theorem mw_308 : Cond.methodLink RX11 292 yX11_howManyThere ∈ xWS := xw_mem (q := 4070) rfl rfl
theorem mw_309 : Cond.static yX11_howManyThere ∈ xWS := xw_mem (q := 4071) rfl rfl
theorem mw_310 : Cond.methodLink RX11 296 yX11_keptOnes ∈ xWS := xw_mem (q := 4073) rfl rfl
theorem mw_311 : Cond.instanceMethod yX11_keptOnes ∈ xWS := xw_mem (q := 4075) rfl rfl
theorem mw_312 : Cond.selects RX11 yX11_keptOnes yX11_keptOnes ∈ xWS := xw_mem (q := 21) rfl rfl
theorem mw_313 : Cond.methodLink RX11 303 yX11_count ∈ xWS := xw_mem (q := 4091) rfl rfl
theorem mw_314 : Cond.instanceMethod yX11_count ∈ xWS := xw_mem (q := 4063) rfl rfl
theorem mw_315 : Cond.selects RX11 yX11_count yX11_count ∈ xWS := xw_mem (q := 4064) rfl rfl
theorem mw_316 : Cond.methodLink RX11 306 yX11_digestOf ∈ xWS := xw_mem (q := 4092) rfl rfl
theorem mw_317 : Cond.static yX11_digestOf ∈ xWS := xw_mem (q := 4093) rfl rfl
theorem mw_318 : Cond.methodLink RX11 312 yX5_init ∈ xWS := xw_mem (q := 1111) rfl rfl
theorem mw_319 : Cond.methodLink RX11 316 yX9_init ∈ xWS := xw_mem (q := 1127) rfl rfl
theorem mw_320 : Cond.methodLink RX11 319 yX10_init ∈ xWS := xw_mem (q := 1136) rfl rfl
theorem mw_321 : Cond.instanceMethod yX10_init ∈ xWS := xw_mem (q := 1137) rfl rfl
theorem mw_322 : Cond.methodLink RX11 320 yX6_init ∈ xWS := xw_mem (q := 1145) rfl rfl
theorem mw_323 : Cond.instanceMethod yX6_init ∈ xWS := xw_mem (q := 1146) rfl rfl
theorem mw_324 : Cond.methodLink RX11 323 yX4_init ∈ xWS := xw_mem (q := 1154) rfl rfl
theorem mw_325 : Cond.instanceMethod yX4_init ∈ xWS := xw_mem (q := 1155) rfl rfl
theorem mw_326 : Cond.methodLink RX11 324 yX7_init ∈ xWS := xw_mem (q := 1162) rfl rfl
theorem mw_327 : Cond.methodLink RX12 1 objectInit ∈ xWS := xw_mem (q := 4100) rfl rfl
theorem mw_328 : Cond.methodLink RX12 81 yX12_in ∈ xWS := xw_mem (q := 4205) rfl rfl
theorem mw_329 : Cond.static yX12_in ∈ xWS := xw_mem (q := 4206) rfl rfl
theorem mw_330 : Cond.methodLink RX12 85 yX12_isRow ∈ xWS := xw_mem (q := 4202) rfl rfl
theorem mw_331 : Cond.static yX12_isRow ∈ xWS := xw_mem (q := 4203) rfl rfl
theorem mw_332 : Cond.methodLink RX12 89 yX12_finds ∈ xWS := xw_mem (q := 4208) rfl rfl
theorem mw_333 : Cond.instanceMethod yX12_finds ∈ xWS := xw_mem (q := 4210) rfl rfl
theorem mw_334 : Cond.selects RX12 yX12_finds yX12_finds ∈ xWS := xw_mem (q := 22) rfl rfl
theorem mw_335 : Cond.methodLink RX12 93 yX12_wrongAt ∈ xWS := xw_mem (q := 4216) rfl rfl
theorem mw_336 : Cond.instanceMethod yX12_wrongAt ∈ xWS := xw_mem (q := 4218) rfl rfl
theorem mw_337 : Cond.selects RX12 yX12_wrongAt yX12_wrongAt ∈ xWS := xw_mem (q := 23) rfl rfl
theorem mw_338 : Cond.methodLink RX12 103 yX12_isText ∈ xWS := xw_mem (q := 5007) rfl rfl
theorem mw_339 : Cond.static yX12_isText ∈ xWS := xw_mem (q := 5008) rfl rfl
theorem mw_340 : Cond.methodLink RX12 173 yX12_isGlass ∈ xWS := xw_mem (q := 5057) rfl rfl
theorem mw_341 : Cond.instanceMethod yX12_isGlass ∈ xWS := xw_mem (q := 5059) rfl rfl
theorem mw_342 : Cond.selects RX12 yX12_isGlass yX12_isGlass ∈ xWS := xw_mem (q := 32) rfl rfl
theorem mw_343 : Cond.methodLink RX12 183 yX12_isStep ∈ xWS := xw_mem (q := 5095) rfl rfl
theorem mw_344 : Cond.static yX12_isStep ∈ xWS := xw_mem (q := 5096) rfl rfl
theorem mw_345 : Cond.methodLink RX12 189 yX12_brokenMany ∈ xWS := xw_mem (q := 5118) rfl rfl
theorem mw_346 : Cond.instanceMethod yX12_brokenMany ∈ xWS := xw_mem (q := 5120) rfl rfl
theorem mw_347 : Cond.selects RX12 yX12_brokenMany yX12_brokenMany ∈ xWS := xw_mem (q := 39) rfl rfl
theorem mw_348 : Cond.methodLink RX12 192 yX12_takeOut ∈ xWS := xw_mem (q := 5138) rfl rfl
theorem mw_349 : Cond.instanceMethod yX12_takeOut ∈ xWS := xw_mem (q := 5140) rfl rfl
theorem mw_350 : Cond.selects RX12 yX12_takeOut yX12_takeOut ∈ xWS := xw_mem (q := 40) rfl rfl
theorem mw_351 : Cond.methodLink RX12 202 yX12_takeTwo ∈ xWS := xw_mem (q := 5162) rfl rfl
theorem mw_352 : Cond.instanceMethod yX12_takeTwo ∈ xWS := xw_mem (q := 5164) rfl rfl
theorem mw_353 : Cond.selects RX12 yX12_takeTwo yX12_takeTwo ∈ xWS := xw_mem (q := 43) rfl rfl
theorem mw_354 : Cond.methodLink RX12 248 yX12_kindsOf ∈ xWS := xw_mem (q := 6041) rfl rfl
theorem mw_355 : Cond.instanceMethod yX12_kindsOf ∈ xWS := xw_mem (q := 6043) rfl rfl
theorem mw_356 : Cond.selects RX12 yX12_kindsOf yX12_kindsOf ∈ xWS := xw_mem (q := 52) rfl rfl
theorem mw_357 : Cond.methodLink RX12 251 yX12_thereOf ∈ xWS := xw_mem (q := 6045) rfl rfl
theorem mw_358 : Cond.static yX12_thereOf ∈ xWS := xw_mem (q := 6046) rfl rfl
theorem mw_359 : Cond.methodLink RX12 255 yX12_countOf ∈ xWS := xw_mem (q := 6037) rfl rfl
theorem mw_360 : Cond.instanceMethod yX12_countOf ∈ xWS := xw_mem (q := 6039) rfl rfl
theorem mw_361 : Cond.selects RX12 yX12_countOf yX12_countOf ∈ xWS := xw_mem (q := 51) rfl rfl
theorem mw_362 : Cond.methodLink RX12 265 yX12_add ∈ xWS := xw_mem (q := 6061) rfl rfl
theorem mw_363 : Cond.instanceMethod yX12_add ∈ xWS := xw_mem (q := 6063) rfl rfl
theorem mw_364 : Cond.selects RX12 yX12_add yX12_add ∈ xWS := xw_mem (q := 53) rfl rfl
theorem mw_365 : Cond.methodLink RL 9 yX11_init ∈ xWS := xw_mem (q := 1019) rfl rfl
theorem mw_366 : Cond.instanceMethod yX11_init ∈ xWS := xw_mem (q := 1020) rfl rfl
theorem mw_367 : Cond.methodLink RL 12 yX12_init ∈ xWS := xw_mem (q := 4097) rfl rfl
theorem mw_368 : Cond.instanceMethod yX12_init ∈ xWS := xw_mem (q := 4098) rfl rfl
theorem mw_369 : Cond.methodLink RL 13 yX11_row ∈ xWS := xw_mem (q := 1219) rfl rfl
theorem mw_370 : Cond.instanceMethod yX11_row ∈ xWS := xw_mem (q := 1220) rfl rfl
theorem mw_371 : Cond.selects RX11 yX11_row yX11_row ∈ xWS := xw_mem (q := 1221) rfl rfl
theorem mw_372 : Cond.methodLink RL 17 yX12_row ∈ xWS := xw_mem (q := 4198) rfl rfl
theorem mw_373 : Cond.instanceMethod yX12_row ∈ xWS := xw_mem (q := 4199) rfl rfl
theorem mw_374 : Cond.selects RX12 yX12_row yX12_row ∈ xWS := xw_mem (q := 4200) rfl rfl
theorem mw_375 : Cond.methodLink RL 18 yX11_lay ∈ xWS := xw_mem (q := 1237) rfl rfl
theorem mw_376 : Cond.instanceMethod yX11_lay ∈ xWS := xw_mem (q := 1238) rfl rfl
theorem mw_377 : Cond.selects RX11 yX11_lay yX11_lay ∈ xWS := xw_mem (q := 1239) rfl rfl
theorem mw_378 : Cond.methodLink RL 22 yX12_lay ∈ xWS := xw_mem (q := 4212) rfl rfl
theorem mw_379 : Cond.instanceMethod yX12_lay ∈ xWS := xw_mem (q := 4213) rfl rfl
theorem mw_380 : Cond.selects RX12 yX12_lay yX12_lay ∈ xWS := xw_mem (q := 4214) rfl rfl
theorem mw_381 : Cond.methodLink RL 23 yX11_at ∈ xWS := xw_mem (q := 2021) rfl rfl
theorem mw_382 : Cond.instanceMethod yX11_at ∈ xWS := xw_mem (q := 2022) rfl rfl
theorem mw_383 : Cond.selects RX11 yX11_at yX11_at ∈ xWS := xw_mem (q := 2023) rfl rfl
theorem mw_384 : Cond.methodLink RL 26 yX12_at ∈ xWS := xw_mem (q := 4224) rfl rfl
theorem mw_385 : Cond.instanceMethod yX12_at ∈ xWS := xw_mem (q := 4225) rfl rfl
theorem mw_386 : Cond.selects RX12 yX12_at yX12_at ∈ xWS := xw_mem (q := 4226) rfl rfl
theorem mw_387 : Cond.methodLink RL 27 yX11_tear ∈ xWS := xw_mem (q := 2025) rfl rfl
theorem mw_388 : Cond.instanceMethod yX11_tear ∈ xWS := xw_mem (q := 2026) rfl rfl
theorem mw_389 : Cond.selects RX11 yX11_tear yX11_tear ∈ xWS := xw_mem (q := 2027) rfl rfl
theorem mw_390 : Cond.methodLink RL 31 yX12_tear ∈ xWS := xw_mem (q := 4228) rfl rfl
theorem mw_391 : Cond.instanceMethod yX12_tear ∈ xWS := xw_mem (q := 4229) rfl rfl
theorem mw_392 : Cond.selects RX12 yX12_tear yX12_tear ∈ xWS := xw_mem (q := 4230) rfl rfl
theorem mw_393 : Cond.methodLink RL 32 yX11_copy ∈ xWS := xw_mem (q := 2033) rfl rfl
theorem mw_394 : Cond.instanceMethod yX11_copy ∈ xWS := xw_mem (q := 2034) rfl rfl
theorem mw_395 : Cond.selects RX11 yX11_copy yX11_copy ∈ xWS := xw_mem (q := 2035) rfl rfl
theorem mw_396 : Cond.methodLink RL 36 yX12_copy ∈ xWS := xw_mem (q := 4232) rfl rfl
theorem mw_397 : Cond.instanceMethod yX12_copy ∈ xWS := xw_mem (q := 4233) rfl rfl
theorem mw_398 : Cond.selects RX12 yX12_copy yX12_copy ∈ xWS := xw_mem (q := 4234) rfl rfl
theorem mw_399 : Cond.methodLink RL 37 yX11_mean ∈ xWS := xw_mem (q := 2049) rfl rfl
theorem mw_400 : Cond.instanceMethod yX11_mean ∈ xWS := xw_mem (q := 2050) rfl rfl
theorem mw_401 : Cond.selects RX11 yX11_mean yX11_mean ∈ xWS := xw_mem (q := 2051) rfl rfl
theorem mw_402 : Cond.methodLink RL 40 yX12_mean ∈ xWS := xw_mem (q := 4239) rfl rfl
theorem mw_403 : Cond.instanceMethod yX12_mean ∈ xWS := xw_mem (q := 5000) rfl rfl
theorem mw_404 : Cond.selects RX12 yX12_mean yX12_mean ∈ xWS := xw_mem (q := 5001) rfl rfl
theorem mw_405 : Cond.methodLink RL 41 yX11_text ∈ xWS := xw_mem (q := 2057) rfl rfl
theorem mw_406 : Cond.instanceMethod yX11_text ∈ xWS := xw_mem (q := 2058) rfl rfl
theorem mw_407 : Cond.selects RX11 yX11_text yX11_text ∈ xWS := xw_mem (q := 2059) rfl rfl
theorem mw_408 : Cond.methodLink RL 44 yX12_text ∈ xWS := xw_mem (q := 5003) rfl rfl
theorem mw_409 : Cond.instanceMethod yX12_text ∈ xWS := xw_mem (q := 5004) rfl rfl
theorem mw_410 : Cond.selects RX12 yX12_text yX12_text ∈ xWS := xw_mem (q := 5005) rfl rfl
theorem mw_411 : Cond.methodLink RL 45 yX11_put ∈ xWS := xw_mem (q := 2064) rfl rfl
theorem mw_412 : Cond.instanceMethod yX11_put ∈ xWS := xw_mem (q := 2065) rfl rfl
theorem mw_413 : Cond.selects RX11 yX11_put yX11_put ∈ xWS := xw_mem (q := 2066) rfl rfl
theorem mw_414 : Cond.methodLink RL 48 yX12_put ∈ xWS := xw_mem (q := 5010) rfl rfl
theorem mw_415 : Cond.instanceMethod yX12_put ∈ xWS := xw_mem (q := 5011) rfl rfl
theorem mw_416 : Cond.selects RX12 yX12_put yX12_put ∈ xWS := xw_mem (q := 5012) rfl rfl
theorem mw_417 : Cond.methodLink RL 49 yX11_fault ∈ xWS := xw_mem (q := 2068) rfl rfl
theorem mw_418 : Cond.instanceMethod yX11_fault ∈ xWS := xw_mem (q := 2069) rfl rfl
theorem mw_419 : Cond.selects RX11 yX11_fault yX11_fault ∈ xWS := xw_mem (q := 2070) rfl rfl
theorem mw_420 : Cond.methodLink RL 52 yX12_fault ∈ xWS := xw_mem (q := 5014) rfl rfl
theorem mw_421 : Cond.instanceMethod yX12_fault ∈ xWS := xw_mem (q := 5015) rfl rfl
theorem mw_422 : Cond.selects RX12 yX12_fault yX12_fault ∈ xWS := xw_mem (q := 5016) rfl rfl
theorem mw_423 : Cond.methodLink RL 53 yX11_room ∈ xWS := xw_mem (q := 2102) rfl rfl
theorem mw_424 : Cond.instanceMethod yX11_room ∈ xWS := xw_mem (q := 2103) rfl rfl
theorem mw_425 : Cond.selects RX11 yX11_room yX11_room ∈ xWS := xw_mem (q := 2104) rfl rfl
theorem mw_426 : Cond.methodLink RL 56 yX12_room ∈ xWS := xw_mem (q := 5049) rfl rfl
theorem mw_427 : Cond.instanceMethod yX12_room ∈ xWS := xw_mem (q := 5050) rfl rfl
theorem mw_428 : Cond.selects RX12 yX12_room yX12_room ∈ xWS := xw_mem (q := 5051) rfl rfl
theorem mw_429 : Cond.methodLink RL 57 yX11_glass ∈ xWS := xw_mem (q := 2114) rfl rfl
theorem mw_430 : Cond.instanceMethod yX11_glass ∈ xWS := xw_mem (q := 2115) rfl rfl
theorem mw_431 : Cond.selects RX11 yX11_glass yX11_glass ∈ xWS := xw_mem (q := 2116) rfl rfl
theorem mw_432 : Cond.methodLink RL 60 yX12_glass ∈ xWS := xw_mem (q := 5053) rfl rfl
theorem mw_433 : Cond.instanceMethod yX12_glass ∈ xWS := xw_mem (q := 5054) rfl rfl
theorem mw_434 : Cond.selects RX12 yX12_glass yX12_glass ∈ xWS := xw_mem (q := 5055) rfl rfl
theorem mw_435 : Cond.methodLink RL 61 yX11_mark ∈ xWS := xw_mem (q := 2166) rfl rfl
theorem mw_436 : Cond.instanceMethod yX11_mark ∈ xWS := xw_mem (q := 2167) rfl rfl
theorem mw_437 : Cond.selects RX11 yX11_mark yX11_mark ∈ xWS := xw_mem (q := 2168) rfl rfl
theorem mw_438 : Cond.methodLink RL 64 yX12_mark ∈ xWS := xw_mem (q := 5084) rfl rfl
theorem mw_439 : Cond.instanceMethod yX12_mark ∈ xWS := xw_mem (q := 5085) rfl rfl
theorem mw_440 : Cond.selects RX12 yX12_mark yX12_mark ∈ xWS := xw_mem (q := 5086) rfl rfl
theorem mw_441 : Cond.methodLink RL 65 yX11_habit ∈ xWS := xw_mem (q := 3038) rfl rfl
theorem mw_442 : Cond.instanceMethod yX11_habit ∈ xWS := xw_mem (q := 3039) rfl rfl
theorem mw_443 : Cond.selects RX11 yX11_habit yX11_habit ∈ xWS := xw_mem (q := 3040) rfl rfl
theorem mw_444 : Cond.methodLink RL 68 yX12_habit ∈ xWS := xw_mem (q := 5091) rfl rfl
theorem mw_445 : Cond.instanceMethod yX12_habit ∈ xWS := xw_mem (q := 5092) rfl rfl
theorem mw_446 : Cond.selects RX12 yX12_habit yX12_habit ∈ xWS := xw_mem (q := 5093) rfl rfl
theorem mw_447 : Cond.methodLink RL 69 yX11_term ∈ xWS := xw_mem (q := 3044) rfl rfl
theorem mw_448 : Cond.instanceMethod yX11_term ∈ xWS := xw_mem (q := 3045) rfl rfl
theorem mw_449 : Cond.selects RX11 yX11_term yX11_term ∈ xWS := xw_mem (q := 3046) rfl rfl
theorem mw_450 : Cond.methodLink RL 72 yX12_term ∈ xWS := xw_mem (q := 5098) rfl rfl
theorem mw_451 : Cond.instanceMethod yX12_term ∈ xWS := xw_mem (q := 5099) rfl rfl
theorem mw_452 : Cond.selects RX12 yX12_term yX12_term ∈ xWS := xw_mem (q := 5100) rfl rfl
theorem mw_453 : Cond.methodLink RL 73 yX11_step ∈ xWS := xw_mem (q := 3056) rfl rfl
theorem mw_454 : Cond.instanceMethod yX11_step ∈ xWS := xw_mem (q := 3057) rfl rfl
theorem mw_455 : Cond.selects RX11 yX11_step yX11_step ∈ xWS := xw_mem (q := 3058) rfl rfl
theorem mw_456 : Cond.methodLink RL 76 yX12_step ∈ xWS := xw_mem (q := 5102) rfl rfl
theorem mw_457 : Cond.instanceMethod yX12_step ∈ xWS := xw_mem (q := 5103) rfl rfl
theorem mw_458 : Cond.selects RX12 yX12_step yX12_step ∈ xWS := xw_mem (q := 5104) rfl rfl
theorem mw_459 : Cond.methodLink RL 77 yX11_deed ∈ xWS := xw_mem (q := 3081) rfl rfl
theorem mw_460 : Cond.instanceMethod yX11_deed ∈ xWS := xw_mem (q := 3082) rfl rfl
theorem mw_461 : Cond.selects RX11 yX11_deed yX11_deed ∈ xWS := xw_mem (q := 3083) rfl rfl
theorem mw_462 : Cond.methodLink RL 80 yX12_deed ∈ xWS := xw_mem (q := 5110) rfl rfl
theorem mw_463 : Cond.instanceMethod yX12_deed ∈ xWS := xw_mem (q := 5111) rfl rfl
theorem mw_464 : Cond.selects RX12 yX12_deed yX12_deed ∈ xWS := xw_mem (q := 5112) rfl rfl
theorem mw_465 : Cond.methodLink RL 81 yX11_broken ∈ xWS := xw_mem (q := 3086) rfl rfl
theorem mw_466 : Cond.instanceMethod yX11_broken ∈ xWS := xw_mem (q := 3087) rfl rfl
theorem mw_467 : Cond.selects RX11 yX11_broken yX11_broken ∈ xWS := xw_mem (q := 3088) rfl rfl
theorem mw_468 : Cond.methodLink RL 85 yX12_broken ∈ xWS := xw_mem (q := 5114) rfl rfl
theorem mw_469 : Cond.instanceMethod yX12_broken ∈ xWS := xw_mem (q := 5115) rfl rfl
theorem mw_470 : Cond.selects RX12 yX12_broken yX12_broken ∈ xWS := xw_mem (q := 5116) rfl rfl
theorem mw_471 : Cond.methodLink RL 86 yX11_undo ∈ xWS := xw_mem (q := 3098) rfl rfl
theorem mw_472 : Cond.instanceMethod yX11_undo ∈ xWS := xw_mem (q := 3099) rfl rfl
theorem mw_473 : Cond.selects RX11 yX11_undo yX11_undo ∈ xWS := xw_mem (q := 3100) rfl rfl
theorem mw_474 : Cond.methodLink RL 89 yX12_undo ∈ xWS := xw_mem (q := 5122) rfl rfl
theorem mw_475 : Cond.instanceMethod yX12_undo ∈ xWS := xw_mem (q := 5123) rfl rfl
theorem mw_476 : Cond.selects RX12 yX12_undo yX12_undo ∈ xWS := xw_mem (q := 5124) rfl rfl
theorem mw_477 : Cond.methodLink RL 90 yX11_keep ∈ xWS := xw_mem (q := 3102) rfl rfl
theorem mw_478 : Cond.instanceMethod yX11_keep ∈ xWS := xw_mem (q := 3103) rfl rfl
theorem mw_479 : Cond.selects RX11 yX11_keep yX11_keep ∈ xWS := xw_mem (q := 3104) rfl rfl
theorem mw_480 : Cond.methodLink RL 93 yX12_keep ∈ xWS := xw_mem (q := 5126) rfl rfl
theorem mw_481 : Cond.instanceMethod yX12_keep ∈ xWS := xw_mem (q := 5127) rfl rfl
theorem mw_482 : Cond.selects RX12 yX12_keep yX12_keep ∈ xWS := xw_mem (q := 5128) rfl rfl
theorem mw_483 : Cond.methodLink RL 94 yX11_on ∈ xWS := xw_mem (q := 3114) rfl rfl
theorem mw_484 : Cond.instanceMethod yX11_on ∈ xWS := xw_mem (q := 3115) rfl rfl
theorem mw_485 : Cond.selects RX11 yX11_on yX11_on ∈ xWS := xw_mem (q := 3116) rfl rfl
theorem mw_486 : Cond.methodLink RL 97 yX12_on ∈ xWS := xw_mem (q := 5130) rfl rfl
theorem mw_487 : Cond.instanceMethod yX12_on ∈ xWS := xw_mem (q := 5131) rfl rfl
theorem mw_488 : Cond.selects RX12 yX12_on yX12_on ∈ xWS := xw_mem (q := 5132) rfl rfl
theorem mw_489 : Cond.methodLink RL 98 yX11_show ∈ xWS := xw_mem (q := 3122) rfl rfl
theorem mw_490 : Cond.instanceMethod yX11_show ∈ xWS := xw_mem (q := 3123) rfl rfl
theorem mw_491 : Cond.selects RX11 yX11_show yX11_show ∈ xWS := xw_mem (q := 3124) rfl rfl
theorem mw_492 : Cond.methodLink RL 101 yX12_show ∈ xWS := xw_mem (q := 5134) rfl rfl
theorem mw_493 : Cond.instanceMethod yX12_show ∈ xWS := xw_mem (q := 5135) rfl rfl
theorem mw_494 : Cond.selects RX12 yX12_show yX12_show ∈ xWS := xw_mem (q := 5136) rfl rfl
theorem mw_495 : Cond.methodLink RL 102 yX11_breaks ∈ xWS := xw_mem (q := 3135) rfl rfl
theorem mw_496 : Cond.instanceMethod yX11_breaks ∈ xWS := xw_mem (q := 3136) rfl rfl
theorem mw_497 : Cond.selects RX11 yX11_breaks yX11_breaks ∈ xWS := xw_mem (q := 3137) rfl rfl
theorem mw_498 : Cond.methodLink RL 105 yX12_breaks ∈ xWS := xw_mem (q := 5146) rfl rfl
theorem mw_499 : Cond.instanceMethod yX12_breaks ∈ xWS := xw_mem (q := 5147) rfl rfl
theorem mw_500 : Cond.selects RX12 yX12_breaks yX12_breaks ∈ xWS := xw_mem (q := 5148) rfl rfl
theorem mw_501 : Cond.methodLink RL 106 yX11_alike ∈ xWS := xw_mem (q := 3144) rfl rfl
theorem mw_502 : Cond.instanceMethod yX11_alike ∈ xWS := xw_mem (q := 3145) rfl rfl
theorem mw_503 : Cond.selects RX11 yX11_alike yX11_alike ∈ xWS := xw_mem (q := 3146) rfl rfl
theorem mw_504 : Cond.methodLink RL 109 yX12_alike ∈ xWS := xw_mem (q := 5154) rfl rfl
theorem mw_505 : Cond.instanceMethod yX12_alike ∈ xWS := xw_mem (q := 5155) rfl rfl
theorem mw_506 : Cond.selects RX12 yX12_alike yX12_alike ∈ xWS := xw_mem (q := 5156) rfl rfl
theorem mw_507 : Cond.methodLink RL 110 yX11_fit ∈ xWS := xw_mem (q := 3148) rfl rfl
theorem mw_508 : Cond.instanceMethod yX11_fit ∈ xWS := xw_mem (q := 3149) rfl rfl
theorem mw_509 : Cond.selects RX11 yX11_fit yX11_fit ∈ xWS := xw_mem (q := 3150) rfl rfl
theorem mw_510 : Cond.methodLink RL 113 yX12_fit ∈ xWS := xw_mem (q := 5158) rfl rfl
theorem mw_511 : Cond.instanceMethod yX12_fit ∈ xWS := xw_mem (q := 5159) rfl rfl
theorem mw_512 : Cond.selects RX12 yX12_fit yX12_fit ∈ xWS := xw_mem (q := 5160) rfl rfl
theorem mw_513 : Cond.methodLink RL 114 yX11_ways ∈ xWS := xw_mem (q := 3155) rfl rfl
theorem mw_514 : Cond.instanceMethod yX11_ways ∈ xWS := xw_mem (q := 3156) rfl rfl
theorem mw_515 : Cond.selects RX11 yX11_ways yX11_ways ∈ xWS := xw_mem (q := 3157) rfl rfl
theorem mw_516 : Cond.methodLink RL 117 yX12_ways ∈ xWS := xw_mem (q := 5166) rfl rfl
theorem mw_517 : Cond.instanceMethod yX12_ways ∈ xWS := xw_mem (q := 5167) rfl rfl
theorem mw_518 : Cond.selects RX12 yX12_ways yX12_ways ∈ xWS := xw_mem (q := 5168) rfl rfl
theorem mw_519 : Cond.methodLink RL 118 yX11_first ∈ xWS := xw_mem (q := 3172) rfl rfl
theorem mw_520 : Cond.instanceMethod yX11_first ∈ xWS := xw_mem (q := 3173) rfl rfl
theorem mw_521 : Cond.selects RX11 yX11_first yX11_first ∈ xWS := xw_mem (q := 3174) rfl rfl
theorem mw_522 : Cond.methodLink RL 121 yX12_first ∈ xWS := xw_mem (q := 5185) rfl rfl
theorem mw_523 : Cond.instanceMethod yX12_first ∈ xWS := xw_mem (q := 5186) rfl rfl
theorem mw_524 : Cond.selects RX12 yX12_first yX12_first ∈ xWS := xw_mem (q := 5187) rfl rfl
theorem mw_525 : Cond.methodLink RL 122 yX11_can ∈ xWS := xw_mem (q := 3179) rfl rfl
theorem mw_526 : Cond.instanceMethod yX11_can ∈ xWS := xw_mem (q := 3180) rfl rfl
theorem mw_527 : Cond.selects RX11 yX11_can yX11_can ∈ xWS := xw_mem (q := 3181) rfl rfl
theorem mw_528 : Cond.methodLink RL 125 yX12_can ∈ xWS := xw_mem (q := 5189) rfl rfl
theorem mw_529 : Cond.instanceMethod yX12_can ∈ xWS := xw_mem (q := 5190) rfl rfl
theorem mw_530 : Cond.selects RX12 yX12_can yX12_can ∈ xWS := xw_mem (q := 5191) rfl rfl
theorem mw_531 : Cond.methodLink RL 126 yX11_laws ∈ xWS := xw_mem (q := 3183) rfl rfl
theorem mw_532 : Cond.instanceMethod yX11_laws ∈ xWS := xw_mem (q := 3184) rfl rfl
theorem mw_533 : Cond.selects RX11 yX11_laws yX11_laws ∈ xWS := xw_mem (q := 3185) rfl rfl
theorem mw_534 : Cond.methodLink RL 129 yX12_laws ∈ xWS := xw_mem (q := 5193) rfl rfl
theorem mw_535 : Cond.instanceMethod yX12_laws ∈ xWS := xw_mem (q := 5194) rfl rfl
theorem mw_536 : Cond.selects RX12 yX12_laws yX12_laws ∈ xWS := xw_mem (q := 5195) rfl rfl
theorem mw_537 : Cond.methodLink RL 130 yX11_next ∈ xWS := xw_mem (q := 3195) rfl rfl
theorem mw_538 : Cond.instanceMethod yX11_next ∈ xWS := xw_mem (q := 3196) rfl rfl
theorem mw_539 : Cond.selects RX11 yX11_next yX11_next ∈ xWS := xw_mem (q := 3197) rfl rfl
theorem mw_540 : Cond.methodLink RL 133 yX12_next ∈ xWS := xw_mem (q := 5201) rfl rfl
theorem mw_541 : Cond.instanceMethod yX12_next ∈ xWS := xw_mem (q := 5202) rfl rfl
theorem mw_542 : Cond.selects RX12 yX12_next yX12_next ∈ xWS := xw_mem (q := 5203) rfl rfl
theorem mw_543 : Cond.methodLink RL 134 yX11_he ∈ xWS := xw_mem (q := 3204) rfl rfl
theorem mw_544 : Cond.instanceMethod yX11_he ∈ xWS := xw_mem (q := 3205) rfl rfl
theorem mw_545 : Cond.selects RX11 yX11_he yX11_he ∈ xWS := xw_mem (q := 3206) rfl rfl
theorem mw_546 : Cond.methodLink RL 137 yX12_he ∈ xWS := xw_mem (q := 5211) rfl rfl
theorem mw_547 : Cond.instanceMethod yX12_he ∈ xWS := xw_mem (q := 5212) rfl rfl
theorem mw_548 : Cond.selects RX12 yX12_he yX12_he ∈ xWS := xw_mem (q := 5213) rfl rfl
theorem mw_549 : Cond.methodLink RL 138 yX11_keeps ∈ xWS := xw_mem (q := 3208) rfl rfl
theorem mw_550 : Cond.instanceMethod yX11_keeps ∈ xWS := xw_mem (q := 3209) rfl rfl
theorem mw_551 : Cond.selects RX11 yX11_keeps yX11_keeps ∈ xWS := xw_mem (q := 3210) rfl rfl
theorem mw_552 : Cond.methodLink RL 141 yX12_keeps ∈ xWS := xw_mem (q := 5215) rfl rfl
theorem mw_553 : Cond.instanceMethod yX12_keeps ∈ xWS := xw_mem (q := 5216) rfl rfl
theorem mw_554 : Cond.selects RX12 yX12_keeps yX12_keeps ∈ xWS := xw_mem (q := 5217) rfl rfl
theorem mw_555 : Cond.methodLink RL 142 yX11_still ∈ xWS := xw_mem (q := 4005) rfl rfl
theorem mw_556 : Cond.instanceMethod yX11_still ∈ xWS := xw_mem (q := 4006) rfl rfl
theorem mw_557 : Cond.selects RX11 yX11_still yX11_still ∈ xWS := xw_mem (q := 4007) rfl rfl
theorem mw_558 : Cond.methodLink RL 145 yX12_still ∈ xWS := xw_mem (q := 5223) rfl rfl
theorem mw_559 : Cond.instanceMethod yX12_still ∈ xWS := xw_mem (q := 5224) rfl rfl
theorem mw_560 : Cond.selects RX12 yX12_still yX12_still ∈ xWS := xw_mem (q := 5225) rfl rfl
theorem mw_561 : Cond.methodLink RL 146 yX11_game ∈ xWS := xw_mem (q := 4013) rfl rfl
theorem mw_562 : Cond.instanceMethod yX11_game ∈ xWS := xw_mem (q := 4014) rfl rfl
theorem mw_563 : Cond.selects RX11 yX11_game yX11_game ∈ xWS := xw_mem (q := 4015) rfl rfl
theorem mw_564 : Cond.methodLink RL 149 yX12_game ∈ xWS := xw_mem (q := 5227) rfl rfl
theorem mw_565 : Cond.instanceMethod yX12_game ∈ xWS := xw_mem (q := 5228) rfl rfl
theorem mw_566 : Cond.selects RX12 yX12_game yX12_game ∈ xWS := xw_mem (q := 5229) rfl rfl
theorem mw_567 : Cond.methodLink RL 150 yX11_picks ∈ xWS := xw_mem (q := 4025) rfl rfl
theorem mw_568 : Cond.instanceMethod yX11_picks ∈ xWS := xw_mem (q := 4026) rfl rfl
theorem mw_569 : Cond.selects RX11 yX11_picks yX11_picks ∈ xWS := xw_mem (q := 4027) rfl rfl
theorem mw_570 : Cond.methodLink RL 153 yX12_picks ∈ xWS := xw_mem (q := 5239) rfl rfl
theorem mw_571 : Cond.instanceMethod yX12_picks ∈ xWS := xw_mem (q := 6000) rfl rfl
theorem mw_572 : Cond.selects RX12 yX12_picks yX12_picks ∈ xWS := xw_mem (q := 6001) rfl rfl
theorem mw_573 : Cond.methodLink RL 154 yX11_odds ∈ xWS := xw_mem (q := 4029) rfl rfl
theorem mw_574 : Cond.instanceMethod yX11_odds ∈ xWS := xw_mem (q := 4030) rfl rfl
theorem mw_575 : Cond.selects RX11 yX11_odds yX11_odds ∈ xWS := xw_mem (q := 4031) rfl rfl
theorem mw_576 : Cond.methodLink RL 157 yX12_odds ∈ xWS := xw_mem (q := 6003) rfl rfl
theorem mw_577 : Cond.instanceMethod yX12_odds ∈ xWS := xw_mem (q := 6004) rfl rfl
theorem mw_578 : Cond.selects RX12 yX12_odds yX12_odds ∈ xWS := xw_mem (q := 6005) rfl rfl
theorem mw_579 : Cond.methodLink RL 158 yX11_mid ∈ xWS := xw_mem (q := 4038) rfl rfl
theorem mw_580 : Cond.instanceMethod yX11_mid ∈ xWS := xw_mem (q := 4039) rfl rfl
theorem mw_581 : Cond.selects RX11 yX11_mid yX11_mid ∈ xWS := xw_mem (q := 4040) rfl rfl
theorem mw_582 : Cond.methodLink RL 161 yX12_mid ∈ xWS := xw_mem (q := 6008) rfl rfl
theorem mw_583 : Cond.instanceMethod yX12_mid ∈ xWS := xw_mem (q := 6009) rfl rfl
theorem mw_584 : Cond.selects RX12 yX12_mid yX12_mid ∈ xWS := xw_mem (q := 6010) rfl rfl
theorem mw_585 : Cond.methodLink RL 162 yX11_lots ∈ xWS := xw_mem (q := 4042) rfl rfl
theorem mw_586 : Cond.instanceMethod yX11_lots ∈ xWS := xw_mem (q := 4043) rfl rfl
theorem mw_587 : Cond.selects RX11 yX11_lots yX11_lots ∈ xWS := xw_mem (q := 4044) rfl rfl
theorem mw_588 : Cond.methodLink RL 165 yX12_lots ∈ xWS := xw_mem (q := 6012) rfl rfl
theorem mw_589 : Cond.instanceMethod yX12_lots ∈ xWS := xw_mem (q := 6013) rfl rfl
theorem mw_590 : Cond.selects RX12 yX12_lots yX12_lots ∈ xWS := xw_mem (q := 6014) rfl rfl
theorem mw_591 : Cond.methodLink RL 166 yX11_asked ∈ xWS := xw_mem (q := 4050) rfl rfl
theorem mw_592 : Cond.instanceMethod yX11_asked ∈ xWS := xw_mem (q := 4051) rfl rfl
theorem mw_593 : Cond.selects RX11 yX11_asked yX11_asked ∈ xWS := xw_mem (q := 4052) rfl rfl
theorem mw_594 : Cond.methodLink RL 169 yX12_asked ∈ xWS := xw_mem (q := 6021) rfl rfl
theorem mw_595 : Cond.instanceMethod yX12_asked ∈ xWS := xw_mem (q := 6022) rfl rfl
theorem mw_596 : Cond.selects RX12 yX12_asked yX12_asked ∈ xWS := xw_mem (q := 6023) rfl rfl
theorem mw_597 : Cond.methodLink RL 170 yX11_upper ∈ xWS := xw_mem (q := 4054) rfl rfl
theorem mw_598 : Cond.instanceMethod yX11_upper ∈ xWS := xw_mem (q := 4055) rfl rfl
theorem mw_599 : Cond.selects RX11 yX11_upper yX11_upper ∈ xWS := xw_mem (q := 4056) rfl rfl
theorem mw_600 : Cond.methodLink RL 174 yX12_upper ∈ xWS := xw_mem (q := 6025) rfl rfl
theorem mw_601 : Cond.instanceMethod yX12_upper ∈ xWS := xw_mem (q := 6026) rfl rfl
theorem mw_602 : Cond.selects RX12 yX12_upper yX12_upper ∈ xWS := xw_mem (q := 6027) rfl rfl
theorem mw_603 : Cond.methodLink RL 175 yX11_lower ∈ xWS := xw_mem (q := 4058) rfl rfl
theorem mw_604 : Cond.instanceMethod yX11_lower ∈ xWS := xw_mem (q := 4059) rfl rfl
theorem mw_605 : Cond.selects RX11 yX11_lower yX11_lower ∈ xWS := xw_mem (q := 4060) rfl rfl
theorem mw_606 : Cond.methodLink RL 178 yX12_lower ∈ xWS := xw_mem (q := 6029) rfl rfl
theorem mw_607 : Cond.instanceMethod yX12_lower ∈ xWS := xw_mem (q := 6030) rfl rfl
theorem mw_608 : Cond.selects RX12 yX12_lower yX12_lower ∈ xWS := xw_mem (q := 6031) rfl rfl
theorem mw_609 : Cond.methodLink RL 179 yX11_count ∈ xWS := xw_mem (q := 4062) rfl rfl
theorem mw_610 : Cond.methodLink RL 182 yX12_count ∈ xWS := xw_mem (q := 6033) rfl rfl
theorem mw_611 : Cond.instanceMethod yX12_count ∈ xWS := xw_mem (q := 6034) rfl rfl
theorem mw_612 : Cond.selects RX12 yX12_count yX12_count ∈ xWS := xw_mem (q := 6035) rfl rfl
theorem mw_613 : Cond.methodLink RL 183 yX11_finding ∈ xWS := xw_mem (q := 4077) rfl rfl
theorem mw_614 : Cond.instanceMethod yX11_finding ∈ xWS := xw_mem (q := 4078) rfl rfl
theorem mw_615 : Cond.selects RX11 yX11_finding yX11_finding ∈ xWS := xw_mem (q := 4079) rfl rfl
theorem mw_616 : Cond.methodLink RL 186 yX12_finding ∈ xWS := xw_mem (q := 6048) rfl rfl
theorem mw_617 : Cond.instanceMethod yX12_finding ∈ xWS := xw_mem (q := 6049) rfl rfl
theorem mw_618 : Cond.selects RX12 yX12_finding yX12_finding ∈ xWS := xw_mem (q := 6050) rfl rfl
theorem mw_619 : Cond.methodLink RL 187 yX11_findings ∈ xWS := xw_mem (q := 4081) rfl rfl
theorem mw_620 : Cond.instanceMethod yX11_findings ∈ xWS := xw_mem (q := 4082) rfl rfl
theorem mw_621 : Cond.selects RX11 yX11_findings yX11_findings ∈ xWS := xw_mem (q := 4083) rfl rfl
theorem mw_622 : Cond.methodLink RL 190 yX12_findings ∈ xWS := xw_mem (q := 6052) rfl rfl
theorem mw_623 : Cond.instanceMethod yX12_findings ∈ xWS := xw_mem (q := 6053) rfl rfl
theorem mw_624 : Cond.selects RX12 yX12_findings yX12_findings ∈ xWS := xw_mem (q := 6054) rfl rfl
theorem mw_625 : Cond.methodLink RL 191 yX11_digest ∈ xWS := xw_mem (q := 4085) rfl rfl
theorem mw_626 : Cond.instanceMethod yX11_digest ∈ xWS := xw_mem (q := 4086) rfl rfl
theorem mw_627 : Cond.selects RX11 yX11_digest yX11_digest ∈ xWS := xw_mem (q := 4087) rfl rfl
theorem mw_628 : Cond.methodLink RL 194 yX12_digest ∈ xWS := xw_mem (q := 6056) rfl rfl
theorem mw_629 : Cond.instanceMethod yX12_digest ∈ xWS := xw_mem (q := 6057) rfl rfl
theorem mw_630 : Cond.selects RX12 yX12_digest yX12_digest ∈ xWS := xw_mem (q := 6058) rfl rfl
theorem mw_631 : Cond.classLink RX11 9 RX0 ∈ xWS := xw_mem (q := 1025) rfl rfl
theorem mw_632 : Cond.classLink RX11 18 RX7 ∈ xWS := xw_mem (q := 1027) rfl rfl
theorem mw_633 : Cond.classLink RX11 24 RX2 ∈ xWS := xw_mem (q := 1029) rfl rfl
theorem mw_634 : Cond.classLink RL 7 RX11 ∈ xWS := xw_mem (q := 1017) rfl rfl
theorem mw_635 : Cond.instantiable RX11 16 ∈ xWS := xw_mem (q := 1018) rfl rfl
theorem mw_636 : Cond.classLink RL 10 RX12 ∈ xWS := xw_mem (q := 4095) rfl rfl
theorem mw_637 : Cond.instantiable RX12 32 ∈ xWS := xw_mem (q := 4096) rfl rfl
theorem mw_638 : Cond.instantiable RX0 2 ∈ xWS := xw_mem (q := 1069) rfl rfl
theorem mw_639 : Cond.instantiable RX7 2 ∈ xWS := xw_mem (q := 1161) rfl rfl
theorem mw_640 : Cond.instantiable RX2 2 ∈ xWS := xw_mem (q := 1030) rfl rfl
theorem mw_641 : Cond.classLink RX11 35 RX8 ∈ xWS := xw_mem (q := 1047) rfl rfl
theorem mw_642 : Cond.instantiable RX8 5 ∈ xWS := xw_mem (q := 1048) rfl rfl
theorem mw_643 : Cond.classLink RX11 59 RX1 ∈ xWS := xw_mem (q := 1084) rfl rfl
theorem mw_644 : Cond.instantiable RX1 5 ∈ xWS := xw_mem (q := 1085) rfl rfl
theorem mw_645 : Cond.classLink RX11 178 RX6 ∈ xWS := xw_mem (q := 1143) rfl rfl
theorem mw_646 : Cond.instantiable RX6 2 ∈ xWS := xw_mem (q := 1144) rfl rfl
theorem mw_647 : Cond.classLink RX11 310 RX5 ∈ xWS := xw_mem (q := 1109) rfl rfl
theorem mw_648 : Cond.instantiable RX5 2 ∈ xWS := xw_mem (q := 1110) rfl rfl
theorem mw_649 : Cond.classLink RX11 314 RX9 ∈ xWS := xw_mem (q := 1125) rfl rfl
theorem mw_650 : Cond.instantiable RX9 2 ∈ xWS := xw_mem (q := 1126) rfl rfl
theorem mw_651 : Cond.classLink RX11 317 RX10 ∈ xWS := xw_mem (q := 1134) rfl rfl
theorem mw_652 : Cond.instantiable RX10 2 ∈ xWS := xw_mem (q := 1135) rfl rfl
theorem mw_653 : Cond.classLink RX11 321 RX4 ∈ xWS := xw_mem (q := 1152) rfl rfl
theorem mw_654 : Cond.instantiable RX4 2 ∈ xWS := xw_mem (q := 1153) rfl rfl
theorem mw_655 : Cond.constantLong RX11 279 (12) ∈ xWS := xw_mem (q := 4037) rfl rfl
theorem mw_656 : Cond.constantLong RX12 237 (12) ∈ xWS := xw_mem (q := 6007) rfl rfl
theorem mw_657 : Cond.constantLong RX11 281 (2147483647) ∈ xWS := xw_mem (q := 4046) rfl rfl
theorem mw_658 : Cond.constantLong RX11 283 (48271) ∈ xWS := xw_mem (q := 4047) rfl rfl
theorem mw_659 : Cond.constantLong RX11 285 (8) ∈ xWS := xw_mem (q := 4048) rfl rfl
theorem mw_660 : Cond.constantLong RX11 287 (6) ∈ xWS := xw_mem (q := 4049) rfl rfl
theorem mw_661 : Cond.constant RX12 239 (2147483646) ∈ xWS := xw_mem (q := 6016) rfl rfl
theorem mw_662 : Cond.constantLong RX12 240 (48271) ∈ xWS := xw_mem (q := 6017) rfl rfl
theorem mw_663 : Cond.constantLong RX12 242 (2147483647) ∈ xWS := xw_mem (q := 6018) rfl rfl
theorem mw_664 : Cond.constantLong RX12 244 (8) ∈ xWS := xw_mem (q := 6019) rfl rfl
theorem mw_665 : Cond.constantLong RX12 246 (6) ∈ xWS := xw_mem (q := 6020) rfl rfl
theorem mw_666 : Cond.constantLong RX11 299 (17) ∈ xWS := xw_mem (q := 4089) rfl rfl
theorem mw_667 : Cond.constantLong RX11 301 (31) ∈ xWS := xw_mem (q := 4090) rfl rfl
theorem mw_668 : Cond.constantLong RX12 263 (17) ∈ xWS := xw_mem (q := 6060) rfl rfl
theorem mw_669 : Cond.constantLong RX12 258 (31) ∈ xWS := xw_mem (q := 6065) rfl rfl
theorem ml_0 : ∀ w ∈ u_ws RX0 TX0 2, w ∈ xWS := List.forall_mem_cons.mpr ⟨xw_mem (q := 1079) rfl rfl, List.forall_mem_cons.mpr ⟨xw_mem (q := 1081) rfl rfl, fun _ h => absurd h List.not_mem_nil⟩⟩
theorem ml_1 : ∀ w ∈ u_ws RX1 TX1 5, w ∈ xWS := List.forall_mem_cons.mpr ⟨xw_mem (q := 1095) rfl rfl, List.forall_mem_cons.mpr ⟨xw_mem (q := 1097) rfl rfl, List.forall_mem_cons.mpr ⟨xw_mem (q := 1099) rfl rfl, List.forall_mem_cons.mpr ⟨xw_mem (q := 1101) rfl rfl, List.forall_mem_cons.mpr ⟨xw_mem (q := 1103) rfl rfl, fun _ h => absurd h List.not_mem_nil⟩⟩⟩⟩⟩
theorem ml_2 : ∀ w ∈ u_ws RX2 TX2 2, w ∈ xWS := List.forall_mem_cons.mpr ⟨xw_mem (q := 1040) rfl rfl, List.forall_mem_cons.mpr ⟨xw_mem (q := 1042) rfl rfl, fun _ h => absurd h List.not_mem_nil⟩⟩
theorem ml_3 : ∀ w ∈ u_ws RX4 TX4 2, w ∈ xWS := List.forall_mem_cons.mpr ⟨xw_mem (q := 1158) rfl rfl, List.forall_mem_cons.mpr ⟨xw_mem (q := 1159) rfl rfl, fun _ h => absurd h List.not_mem_nil⟩⟩
theorem ml_4 : ∀ w ∈ u_ws RX5 TX5 2, w ∈ xWS := List.forall_mem_cons.mpr ⟨xw_mem (q := 1120) rfl rfl, List.forall_mem_cons.mpr ⟨xw_mem (q := 1122) rfl rfl, fun _ h => absurd h List.not_mem_nil⟩⟩
theorem ml_5 : ∀ w ∈ u_ws RX6 TX6 2, w ∈ xWS := List.forall_mem_cons.mpr ⟨xw_mem (q := 1149) rfl rfl, List.forall_mem_cons.mpr ⟨xw_mem (q := 1150) rfl rfl, fun _ h => absurd h List.not_mem_nil⟩⟩
theorem ml_6 : ∀ w ∈ u_ws RX7 TX7 2, w ∈ xWS := List.forall_mem_cons.mpr ⟨xw_mem (q := 1163) rfl rfl, List.forall_mem_cons.mpr ⟨xw_mem (q := 1164) rfl rfl, fun _ h => absurd h List.not_mem_nil⟩⟩
theorem ml_7 : ∀ w ∈ u_ws RX8 TX8 5, w ∈ xWS := List.forall_mem_cons.mpr ⟨xw_mem (q := 1058) rfl rfl, List.forall_mem_cons.mpr ⟨xw_mem (q := 1060) rfl rfl, List.forall_mem_cons.mpr ⟨xw_mem (q := 1062) rfl rfl, List.forall_mem_cons.mpr ⟨xw_mem (q := 1064) rfl rfl, List.forall_mem_cons.mpr ⟨xw_mem (q := 1066) rfl rfl, fun _ h => absurd h List.not_mem_nil⟩⟩⟩⟩⟩
theorem ml_8 : ∀ w ∈ u_ws RX9 TX9 2, w ∈ xWS := List.forall_mem_cons.mpr ⟨xw_mem (q := 1131) rfl rfl, List.forall_mem_cons.mpr ⟨xw_mem (q := 1132) rfl rfl, fun _ h => absurd h List.not_mem_nil⟩⟩
theorem ml_9 : ∀ w ∈ u_ws RX10 TX10 2, w ∈ xWS := List.forall_mem_cons.mpr ⟨xw_mem (q := 1140) rfl rfl, List.forall_mem_cons.mpr ⟨xw_mem (q := 1141) rfl rfl, fun _ h => absurd h List.not_mem_nil⟩⟩
theorem ml_10 : ∀ w ∈ u_ws RX11 TX11 16, w ∈ xWS := List.forall_mem_cons.mpr ⟨xw_mem (q := 1186) rfl rfl, List.forall_mem_cons.mpr ⟨xw_mem (q := 1188) rfl rfl, List.forall_mem_cons.mpr ⟨xw_mem (q := 1190) rfl rfl, List.forall_mem_cons.mpr ⟨xw_mem (q := 1192) rfl rfl, List.forall_mem_cons.mpr ⟨xw_mem (q := 1194) rfl rfl, List.forall_mem_cons.mpr ⟨xw_mem (q := 1196) rfl rfl, List.forall_mem_cons.mpr ⟨xw_mem (q := 1198) rfl rfl, List.forall_mem_cons.mpr ⟨xw_mem (q := 1200) rfl rfl, List.forall_mem_cons.mpr ⟨xw_mem (q := 1202) rfl rfl, List.forall_mem_cons.mpr ⟨xw_mem (q := 1204) rfl rfl, List.forall_mem_cons.mpr ⟨xw_mem (q := 1206) rfl rfl, List.forall_mem_cons.mpr ⟨xw_mem (q := 1208) rfl rfl, List.forall_mem_cons.mpr ⟨xw_mem (q := 1210) rfl rfl, List.forall_mem_cons.mpr ⟨xw_mem (q := 1212) rfl rfl, List.forall_mem_cons.mpr ⟨xw_mem (q := 1214) rfl rfl, List.forall_mem_cons.mpr ⟨xw_mem (q := 1216) rfl rfl, fun _ h => absurd h List.not_mem_nil⟩⟩⟩⟩⟩⟩⟩⟩⟩⟩⟩⟩⟩⟩⟩⟩
theorem ml_11 : ∀ w ∈ u_ws RX12 TX12 32, w ∈ xWS := List.forall_mem_cons.mpr ⟨xw_mem (q := 4133) rfl rfl, List.forall_mem_cons.mpr ⟨xw_mem (q := 4135) rfl rfl, List.forall_mem_cons.mpr ⟨xw_mem (q := 4137) rfl rfl, List.forall_mem_cons.mpr ⟨xw_mem (q := 4139) rfl rfl, List.forall_mem_cons.mpr ⟨xw_mem (q := 4141) rfl rfl, List.forall_mem_cons.mpr ⟨xw_mem (q := 4143) rfl rfl, List.forall_mem_cons.mpr ⟨xw_mem (q := 4145) rfl rfl, List.forall_mem_cons.mpr ⟨xw_mem (q := 4147) rfl rfl, List.forall_mem_cons.mpr ⟨xw_mem (q := 4149) rfl rfl, List.forall_mem_cons.mpr ⟨xw_mem (q := 4151) rfl rfl, List.forall_mem_cons.mpr ⟨xw_mem (q := 4153) rfl rfl, List.forall_mem_cons.mpr ⟨xw_mem (q := 4155) rfl rfl, List.forall_mem_cons.mpr ⟨xw_mem (q := 4157) rfl rfl, List.forall_mem_cons.mpr ⟨xw_mem (q := 4159) rfl rfl, List.forall_mem_cons.mpr ⟨xw_mem (q := 4161) rfl rfl, List.forall_mem_cons.mpr ⟨xw_mem (q := 4163) rfl rfl, List.forall_mem_cons.mpr ⟨xw_mem (q := 4165) rfl rfl, List.forall_mem_cons.mpr ⟨xw_mem (q := 4167) rfl rfl, List.forall_mem_cons.mpr ⟨xw_mem (q := 4169) rfl rfl, List.forall_mem_cons.mpr ⟨xw_mem (q := 4171) rfl rfl, List.forall_mem_cons.mpr ⟨xw_mem (q := 4173) rfl rfl, List.forall_mem_cons.mpr ⟨xw_mem (q := 4175) rfl rfl, List.forall_mem_cons.mpr ⟨xw_mem (q := 4177) rfl rfl, List.forall_mem_cons.mpr ⟨xw_mem (q := 4179) rfl rfl, List.forall_mem_cons.mpr ⟨xw_mem (q := 4181) rfl rfl, List.forall_mem_cons.mpr ⟨xw_mem (q := 4183) rfl rfl, List.forall_mem_cons.mpr ⟨xw_mem (q := 4185) rfl rfl, List.forall_mem_cons.mpr ⟨xw_mem (q := 4187) rfl rfl, List.forall_mem_cons.mpr ⟨xw_mem (q := 4189) rfl rfl, List.forall_mem_cons.mpr ⟨xw_mem (q := 4191) rfl rfl, List.forall_mem_cons.mpr ⟨xw_mem (q := 4193) rfl rfl, List.forall_mem_cons.mpr ⟨xw_mem (q := 4195) rfl rfl, fun _ h => absurd h List.not_mem_nil⟩⟩⟩⟩⟩⟩⟩⟩⟩⟩⟩⟩⟩⟩⟩⟩⟩⟩⟩⟩⟩⟩⟩⟩⟩⟩⟩⟩⟩⟩⟩⟩
