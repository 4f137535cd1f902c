set_option maxRecDepth 100000 in
theorem xt_ok_0 : xe_ok cX0_init xt_0 = true := by decide +kernel
set_option maxRecDepth 100000 in
theorem xt_ok_1 : xe_ok cX0_isMissing xt_1 = true := by decide +kernel
set_option maxRecDepth 100000 in
theorem xt_ok_2 : xe_ok cX0_size xt_2 = true := by decide +kernel
set_option maxRecDepth 100000 in
theorem xt_ok_3 : xe_ok cX0_has xt_3 = true := by decide +kernel
set_option maxRecDepth 100000 in
theorem xt_ok_4 : xe_ok cX0_hasPlaces xt_4 = true := by decide +kernel
set_option maxRecDepth 100000 in
theorem xt_ok_5 : xe_ok cX0_get xt_5 = true := by decide +kernel
set_option maxRecDepth 100000 in
theorem xt_ok_6 : xe_ok cX0_set xt_6 = true := by decide +kernel
set_option maxRecDepth 100000 in
theorem xt_ok_7 : xe_ok cX0_open xt_7 = true := by decide +kernel
set_option maxRecDepth 100000 in
theorem xt_ok_8 : xe_ok cX0_drop xt_8 = true := by decide +kernel
set_option maxRecDepth 100000 in
theorem xt_ok_9 : xe_ok cX0_take xt_9 = true := by decide +kernel
set_option maxRecDepth 100000 in
theorem xt_ok_10 : xe_ok cX0_takeAll xt_10 = true := by decide +kernel
set_option maxRecDepth 100000 in
theorem xt_ok_11 : xe_ok cX0_stepAt xt_11 = true := by decide +kernel
set_option maxRecDepth 100000 in
theorem xt_ok_12 : xe_ok cX1_init xt_12 = true := by decide +kernel
set_option maxRecDepth 100000 in
theorem xt_ok_13 : xe_ok cX1_rows xt_13 = true := by decide +kernel
set_option maxRecDepth 100000 in
theorem xt_ok_14 : xe_ok cX1_fewestStill xt_14 = true := by decide +kernel
set_option maxRecDepth 100000 in
theorem xt_ok_15 : xe_ok cX1_firstSteps xt_15 = true := by decide +kernel
set_option maxRecDepth 100000 in
theorem xt_ok_16 : xe_ok cX1_weigh xt_16 = true := by decide +kernel
set_option maxRecDepth 100000 in
theorem xt_ok_17 : xe_ok cX1_isHead xt_17 = true := by decide +kernel
set_option maxRecDepth 100000 in
theorem xt_ok_18 : xe_ok cX1_heirOf xt_18 = true := by decide +kernel
set_option maxRecDepth 100000 in
theorem xt_ok_19 : xe_ok cX1_weighStep xt_19 = true := by decide +kernel
set_option maxRecDepth 100000 in
theorem xt_ok_20 : xe_ok cX1_shownAtHead xt_20 = true := by decide +kernel
set_option maxRecDepth 100000 in
theorem xt_ok_21 : xe_ok cX1_addChain xt_21 = true := by decide +kernel
set_option maxRecDepth 100000 in
theorem xt_ok_22 : xe_ok cX2_init xt_22 = true := by decide +kernel
set_option maxRecDepth 100000 in
theorem xt_ok_23 : xe_ok cX2_size xt_23 = true := by decide +kernel
set_option maxRecDepth 100000 in
theorem xt_ok_24 : xe_ok cX2_isMissing xt_24 = true := by decide +kernel
set_option maxRecDepth 100000 in
theorem xt_ok_25 : xe_ok cX2_drop xt_25 = true := by decide +kernel
set_option maxRecDepth 100000 in
theorem xt_ok_26 : xe_ok cX2_fact xt_26 = true := by decide +kernel
set_option maxRecDepth 100000 in
theorem xt_ok_27 : xe_ok cX2_write xt_27 = true := by decide +kernel
set_option maxRecDepth 100000 in
theorem xt_ok_28 : xe_ok cX2_add xt_28 = true := by decide +kernel
set_option maxRecDepth 100000 in
theorem xt_ok_29 : xe_ok cX2_see xt_29 = true := by decide +kernel
set_option maxRecDepth 100000 in
theorem xt_ok_30 : xe_ok cX2_cutTo xt_30 = true := by decide +kernel
set_option maxRecDepth 100000 in
theorem xt_ok_31 : xe_ok cX2_takeAll xt_31 = true := by decide +kernel
set_option maxRecDepth 100000 in
theorem xt_ok_32 : xe_ok cX2_howManyBefore xt_32 = true := by decide +kernel
set_option maxRecDepth 100000 in
theorem xt_ok_33 : xe_ok cX2_howManyBrokeBefore xt_33 = true := by decide +kernel
set_option maxRecDepth 100000 in
theorem xt_ok_34 : xe_ok cX2_howManyBroke xt_34 = true := by decide +kernel
set_option maxRecDepth 100000 in
theorem xt_ok_35 : xe_ok cX2_firstThatBroke xt_35 = true := by decide +kernel
set_option maxRecDepth 100000 in
theorem xt_ok_36 : xe_ok cX2_stepAt xt_36 = true := by decide +kernel
set_option maxRecDepth 100000 in
theorem xt_ok_37 : xe_ok cX3_init xt_37 = true := by decide +kernel
set_option maxRecDepth 100000 in
theorem xt_ok_38 : xe_ok cX4_init xt_38 = true := by decide +kernel
set_option maxRecDepth 100000 in
theorem xt_ok_39 : xe_ok cX4_source xt_39 = true := by decide +kernel
set_option maxRecDepth 100000 in
theorem xt_ok_40 : xe_ok cX4_thinks xt_40 = true := by decide +kernel
set_option maxRecDepth 100000 in
theorem xt_ok_41 : xe_ok cX5_init xt_41 = true := by decide +kernel
set_option maxRecDepth 100000 in
theorem xt_ok_42 : xe_ok cX5_source xt_42 = true := by decide +kernel
set_option maxRecDepth 100000 in
theorem xt_ok_43 : xe_ok cX5_isOf xt_43 = true := by decide +kernel
set_option maxRecDepth 100000 in
theorem xt_ok_44 : xe_ok cX6_init xt_44 = true := by decide +kernel
set_option maxRecDepth 100000 in
theorem xt_ok_45 : xe_ok cX6_source xt_45 = true := by decide +kernel
set_option maxRecDepth 100000 in
theorem xt_ok_46 : xe_ok cX6_placesToLimp xt_46 = true := by decide +kernel
set_option maxRecDepth 100000 in
theorem xt_ok_47 : xe_ok cX7_init xt_47 = true := by decide +kernel
set_option maxRecDepth 100000 in
theorem xt_ok_48 : xe_ok cX7_kind xt_48 = true := by decide +kernel
set_option maxRecDepth 100000 in
theorem xt_ok_49 : xe_ok cX7_delay xt_49 = true := by decide +kernel
set_option maxRecDepth 100000 in
theorem xt_ok_50 : xe_ok cX7_isOf xt_50 = true := by decide +kernel
set_option maxRecDepth 100000 in
theorem xt_ok_51 : xe_ok cX7_source xt_51 = true := by decide +kernel
set_option maxRecDepth 100000 in
theorem xt_ok_52 : xe_ok cX7_thinks xt_52 = true := by decide +kernel
set_option maxRecDepth 100000 in
theorem xt_ok_53 : xe_ok cX7_isOdd xt_53 = true := by decide +kernel
set_option maxRecDepth 100000 in
theorem xt_ok_54 : xe_ok cX8_init xt_54 = true := by decide +kernel
set_option maxRecDepth 100000 in
theorem xt_ok_55 : xe_ok cX8_glasses xt_55 = true := by decide +kernel
set_option maxRecDepth 100000 in
theorem xt_ok_56 : xe_ok cX8_terms xt_56 = true := by decide +kernel
set_option maxRecDepth 100000 in
theorem xt_ok_57 : xe_ok cX8_lawOf xt_57 = true := by decide +kernel
set_option maxRecDepth 100000 in
theorem xt_ok_58 : xe_ok cX8_termStep xt_58 = true := by decide +kernel
set_option maxRecDepth 100000 in
theorem xt_ok_59 : xe_ok cX8_thought xt_59 = true := by decide +kernel
set_option maxRecDepth 100000 in
theorem xt_ok_60 : xe_ok cX8_seen xt_60 = true := by decide +kernel
set_option maxRecDepth 100000 in
theorem xt_ok_61 : xe_ok cX8_shown xt_61 = true := by decide +kernel
set_option maxRecDepth 100000 in
theorem xt_ok_62 : xe_ok cX8_stepsSeenAs xt_62 = true := by decide +kernel
set_option maxRecDepth 100000 in
theorem xt_ok_63 : xe_ok cX8_firstBroken xt_63 = true := by decide +kernel
set_option maxRecDepth 100000 in
theorem xt_ok_64 : xe_ok cX8_isBroken xt_64 = true := by decide +kernel
set_option maxRecDepth 100000 in
theorem xt_ok_65 : xe_ok cX8_read xt_65 = true := by decide +kernel
set_option maxRecDepth 100000 in
theorem xt_ok_66 : xe_ok cX8_readItems xt_66 = true := by decide +kernel
set_option maxRecDepth 100000 in
theorem xt_ok_67 : xe_ok cX8_readGlass xt_67 = true := by decide +kernel
set_option maxRecDepth 100000 in
theorem xt_ok_68 : xe_ok cX8_readTerm xt_68 = true := by decide +kernel
set_option maxRecDepth 100000 in
theorem xt_ok_69 : xe_ok cX8_kindOf xt_69 = true := by decide +kernel
set_option maxRecDepth 100000 in
theorem xt_ok_70 : xe_ok cX8_afterBlanks xt_70 = true := by decide +kernel
set_option maxRecDepth 100000 in
theorem xt_ok_71 : xe_ok cX8_isFigure xt_71 = true := by decide +kernel
set_option maxRecDepth 100000 in
theorem xt_ok_72 : xe_ok cX9_init xt_72 = true := by decide +kernel
set_option maxRecDepth 100000 in
theorem xt_ok_73 : xe_ok cX9_source xt_73 = true := by decide +kernel
set_option maxRecDepth 100000 in
theorem xt_ok_74 : xe_ok cX9_isOf xt_74 = true := by decide +kernel
set_option maxRecDepth 100000 in
theorem xt_ok_75 : xe_ok cX10_init xt_75 = true := by decide +kernel
set_option maxRecDepth 100000 in
theorem xt_ok_76 : xe_ok cX10_thinks xt_76 = true := by decide +kernel
set_option maxRecDepth 100000 in
theorem xt_ok_77 : xe_ok cX11_init xt_77 = true := by decide +kernel
set_option maxRecDepth 100000 in
theorem xt_ok_78 : xe_ok cX11_row xt_78 = true := by decide +kernel
set_option maxRecDepth 100000 in
theorem xt_ok_79 : xe_ok cX11_lay xt_79 = true := by decide +kernel
set_option maxRecDepth 100000 in
theorem xt_ok_80 : xe_ok cX11_at xt_80 = true := by decide +kernel
set_option maxRecDepth 100000 in
theorem xt_ok_81 : xe_ok cX11_tear xt_81 = true := by decide +kernel
set_option maxRecDepth 100000 in
theorem xt_ok_82 : xe_ok cX11_copy xt_82 = true := by decide +kernel
set_option maxRecDepth 100000 in
theorem xt_ok_83 : xe_ok cX11_mean xt_83 = true := by decide +kernel
set_option maxRecDepth 100000 in
theorem xt_ok_84 : xe_ok cX11_text xt_84 = true := by decide +kernel
set_option maxRecDepth 100000 in
theorem xt_ok_85 : xe_ok cX11_put xt_85 = true := by decide +kernel
set_option maxRecDepth 100000 in
theorem xt_ok_86 : xe_ok cX11_fault xt_86 = true := by decide +kernel
set_option maxRecDepth 100000 in
theorem xt_ok_87 : xe_ok cX11_room xt_87 = true := by decide +kernel
set_option maxRecDepth 100000 in
theorem xt_ok_88 : xe_ok cX11_glass xt_88 = true := by decide +kernel
set_option maxRecDepth 100000 in
theorem xt_ok_89 : xe_ok cX11_mark xt_89 = true := by decide +kernel
set_option maxRecDepth 100000 in
theorem xt_ok_90 : xe_ok cX11_habit xt_90 = true := by decide +kernel
set_option maxRecDepth 100000 in
theorem xt_ok_91 : xe_ok cX11_term xt_91 = true := by decide +kernel
set_option maxRecDepth 100000 in
theorem xt_ok_92 : xe_ok cX11_step xt_92 = true := by decide +kernel
set_option maxRecDepth 100000 in
theorem xt_ok_93 : xe_ok cX11_deed xt_93 = true := by decide +kernel
set_option maxRecDepth 100000 in
theorem xt_ok_94 : xe_ok cX11_broken xt_94 = true := by decide +kernel
set_option maxRecDepth 100000 in
theorem xt_ok_95 : xe_ok cX11_undo xt_95 = true := by decide +kernel
set_option maxRecDepth 100000 in
theorem xt_ok_96 : xe_ok cX11_keep xt_96 = true := by decide +kernel
set_option maxRecDepth 100000 in
theorem xt_ok_97 : xe_ok cX11_on xt_97 = true := by decide +kernel
set_option maxRecDepth 100000 in
theorem xt_ok_98 : xe_ok cX11_show xt_98 = true := by decide +kernel
set_option maxRecDepth 100000 in
theorem xt_ok_99 : xe_ok cX11_breaks xt_99 = true := by decide +kernel
set_option maxRecDepth 100000 in
theorem xt_ok_100 : xe_ok cX11_alike xt_100 = true := by decide +kernel
set_option maxRecDepth 100000 in
theorem xt_ok_101 : xe_ok cX11_fit xt_101 = true := by decide +kernel
set_option maxRecDepth 100000 in
theorem xt_ok_102 : xe_ok cX11_ways xt_102 = true := by decide +kernel
set_option maxRecDepth 100000 in
theorem xt_ok_103 : xe_ok cX11_first xt_103 = true := by decide +kernel
set_option maxRecDepth 100000 in
theorem xt_ok_104 : xe_ok cX11_can xt_104 = true := by decide +kernel
set_option maxRecDepth 100000 in
theorem xt_ok_105 : xe_ok cX11_laws xt_105 = true := by decide +kernel
set_option maxRecDepth 100000 in
theorem xt_ok_106 : xe_ok cX11_next xt_106 = true := by decide +kernel
set_option maxRecDepth 100000 in
theorem xt_ok_107 : xe_ok cX11_he xt_107 = true := by decide +kernel
set_option maxRecDepth 100000 in
theorem xt_ok_108 : xe_ok cX11_keeps xt_108 = true := by decide +kernel
set_option maxRecDepth 100000 in
theorem xt_ok_109 : xe_ok cX11_still xt_109 = true := by decide +kernel
set_option maxRecDepth 100000 in
theorem xt_ok_110 : xe_ok cX11_game xt_110 = true := by decide +kernel
set_option maxRecDepth 100000 in
theorem xt_ok_111 : xe_ok cX11_picks xt_111 = true := by decide +kernel
set_option maxRecDepth 100000 in
theorem xt_ok_112 : xe_ok cX11_odds xt_112 = true := by decide +kernel
set_option maxRecDepth 100000 in
theorem xt_ok_113 : xe_ok cX11_mid xt_113 = true := by decide +kernel
set_option maxRecDepth 100000 in
theorem xt_ok_114 : xe_ok cX11_lots xt_114 = true := by decide +kernel
set_option maxRecDepth 100000 in
theorem xt_ok_115 : xe_ok cX11_asked xt_115 = true := by decide +kernel
set_option maxRecDepth 100000 in
theorem xt_ok_116 : xe_ok cX11_upper xt_116 = true := by decide +kernel
set_option maxRecDepth 100000 in
theorem xt_ok_117 : xe_ok cX11_lower xt_117 = true := by decide +kernel
set_option maxRecDepth 100000 in
theorem xt_ok_118 : xe_ok cX11_count xt_118 = true := by decide +kernel
set_option maxRecDepth 100000 in
theorem xt_ok_119 : xe_ok cX11_finding xt_119 = true := by decide +kernel
set_option maxRecDepth 100000 in
theorem xt_ok_120 : xe_ok cX11_findings xt_120 = true := by decide +kernel
set_option maxRecDepth 100000 in
theorem xt_ok_121 : xe_ok cX11_digest xt_121 = true := by decide +kernel
set_option maxRecDepth 100000 in
theorem xt_ok_122 : xe_ok cX11_refuse xt_122 = true := by decide +kernel
set_option maxRecDepth 100000 in
theorem xt_ok_123 : xe_ok cX11_isRow xt_123 = true := by decide +kernel
set_option maxRecDepth 100000 in
theorem xt_ok_124 : xe_ok cX11_isText xt_124 = true := by decide +kernel
set_option maxRecDepth 100000 in
theorem xt_ok_125 : xe_ok cX11_isKept xt_125 = true := by decide +kernel
set_option maxRecDepth 100000 in
theorem xt_ok_126 : xe_ok cX11_isStep xt_126 = true := by decide +kernel
set_option maxRecDepth 100000 in
theorem xt_ok_127 : xe_ok cX11_isGlass xt_127 = true := by decide +kernel
set_option maxRecDepth 100000 in
theorem xt_ok_128 : xe_ok cX11_findingOfPlace xt_128 = true := by decide +kernel
set_option maxRecDepth 100000 in
theorem xt_ok_129 : xe_ok cX11_findingOfSteps xt_129 = true := by decide +kernel
set_option maxRecDepth 100000 in
theorem xt_ok_130 : xe_ok cX11_findingOfPair xt_130 = true := by decide +kernel
set_option maxRecDepth 100000 in
theorem xt_ok_131 : xe_ok cX11_newPane xt_131 = true := by decide +kernel
set_option maxRecDepth 100000 in
theorem xt_ok_132 : xe_ok cX11_paneOf xt_132 = true := by decide +kernel
set_option maxRecDepth 100000 in
theorem xt_ok_133 : xe_ok cX11_glassFact xt_133 = true := by decide +kernel
set_option maxRecDepth 100000 in
theorem xt_ok_134 : xe_ok cX11_noughtsAtDeeds xt_134 = true := by decide +kernel
set_option maxRecDepth 100000 in
theorem xt_ok_135 : xe_ok cX11_doStep xt_135 = true := by decide +kernel
set_option maxRecDepth 100000 in
theorem xt_ok_136 : xe_ok cX11_glassesOf xt_136 = true := by decide +kernel
set_option maxRecDepth 100000 in
theorem xt_ok_137 : xe_ok cX11_keptOnes xt_137 = true := by decide +kernel
set_option maxRecDepth 100000 in
theorem xt_ok_138 : xe_ok cX11_howManyThere xt_138 = true := by decide +kernel
set_option maxRecDepth 100000 in
theorem xt_ok_139 : xe_ok cX11_digestOf xt_139 = true := by decide +kernel
set_option maxRecDepth 100000 in
theorem xt_ok_140 : xe_ok cX11_findSets xt_140 = true := by decide +kernel
set_option maxRecDepth 100000 in
theorem xt_ok_141 : xe_ok cX11_leastOf xt_141 = true := by decide +kernel
set_option maxRecDepth 100000 in
theorem xt_ok_142 : xe_ok cX11_firstNotShown xt_142 = true := by decide +kernel
set_option maxRecDepth 100000 in
theorem xt_ok_143 : xe_ok cX11_lawsOf xt_143 = true := by decide +kernel
set_option maxRecDepth 100000 in
theorem xt_ok_144 : xe_ok cX11_mostThatShowOneThing xt_144 = true := by decide +kernel
set_option maxRecDepth 100000 in
theorem xt_ok_145 : xe_ok cX11_leastPick xt_145 = true := by decide +kernel
set_option maxRecDepth 100000 in
theorem xt_ok_146 : xe_ok cX11_isSafeBeforeAll xt_146 = true := by decide +kernel
set_option maxRecDepth 100000 in
theorem xt_ok_147 : xe_ok cX11_breakingOfTwelve xt_147 = true := by decide +kernel
set_option maxRecDepth 100000 in
theorem xt_ok_148 : xe_ok cX11_tell xt_148 = true := by decide +kernel
set_option maxRecDepth 100000 in
theorem xt_ok_149 : xe_ok cX11_commonDivisor xt_149 = true := by decide +kernel
set_option maxRecDepth 100000 in
theorem xt_ok_150 : xe_ok cX12_init xt_150 = true := by decide +kernel
set_option maxRecDepth 100000 in
theorem xt_ok_151 : xe_ok cX12_in xt_151 = true := by decide +kernel
set_option maxRecDepth 100000 in
theorem xt_ok_152 : xe_ok cX12_has xt_152 = true := by decide +kernel
set_option maxRecDepth 100000 in
theorem xt_ok_153 : xe_ok cX12_finds xt_153 = true := by decide +kernel
set_option maxRecDepth 100000 in
theorem xt_ok_154 : xe_ok cX12_tells xt_154 = true := by decide +kernel
set_option maxRecDepth 100000 in
theorem xt_ok_155 : xe_ok cX12_tellParts xt_155 = true := by decide +kernel
set_option maxRecDepth 100000 in
theorem xt_ok_156 : xe_ok cX12_isRow xt_156 = true := by decide +kernel
set_option maxRecDepth 100000 in
theorem xt_ok_157 : xe_ok cX12_isText xt_157 = true := by decide +kernel
set_option maxRecDepth 100000 in
theorem xt_ok_158 : xe_ok cX12_row xt_158 = true := by decide +kernel
set_option maxRecDepth 100000 in
theorem xt_ok_159 : xe_ok cX12_wrongAt xt_159 = true := by decide +kernel
set_option maxRecDepth 100000 in
theorem xt_ok_160 : xe_ok cX12_lay xt_160 = true := by decide +kernel
set_option maxRecDepth 100000 in
theorem xt_ok_161 : xe_ok cX12_at xt_161 = true := by decide +kernel
set_option maxRecDepth 100000 in
theorem xt_ok_162 : xe_ok cX12_tear xt_162 = true := by decide +kernel
set_option maxRecDepth 100000 in
theorem xt_ok_163 : xe_ok cX12_isPart xt_163 = true := by decide +kernel
set_option maxRecDepth 100000 in
theorem xt_ok_164 : xe_ok cX12_copy xt_164 = true := by decide +kernel
set_option maxRecDepth 100000 in
theorem xt_ok_165 : xe_ok cX12_mean xt_165 = true := by decide +kernel
set_option maxRecDepth 100000 in
theorem xt_ok_166 : xe_ok cX12_text xt_166 = true := by decide +kernel
set_option maxRecDepth 100000 in
theorem xt_ok_167 : xe_ok cX12_put xt_167 = true := by decide +kernel
set_option maxRecDepth 100000 in
theorem xt_ok_168 : xe_ok cX12_letter xt_168 = true := by decide +kernel
set_option maxRecDepth 100000 in
theorem xt_ok_169 : xe_ok cX12_skip xt_169 = true := by decide +kernel
set_option maxRecDepth 100000 in
theorem xt_ok_170 : xe_ok cX12_figure xt_170 = true := by decide +kernel
set_option maxRecDepth 100000 in
theorem xt_ok_171 : xe_ok cX12_kindBy xt_171 = true := by decide +kernel
set_option maxRecDepth 100000 in
theorem xt_ok_172 : xe_ok cX12_areHabits xt_172 = true := by decide +kernel
set_option maxRecDepth 100000 in
theorem xt_ok_173 : xe_ok cX12_isGlassItem xt_173 = true := by decide +kernel
set_option maxRecDepth 100000 in
theorem xt_ok_174 : xe_ok cX12_isTermItem xt_174 = true := by decide +kernel
set_option maxRecDepth 100000 in
theorem xt_ok_175 : xe_ok cX12_isRoom xt_175 = true := by decide +kernel
set_option maxRecDepth 100000 in
theorem xt_ok_176 : xe_ok cX12_fault xt_176 = true := by decide +kernel
set_option maxRecDepth 100000 in
theorem xt_ok_177 : xe_ok cX12_room xt_177 = true := by decide +kernel
set_option maxRecDepth 100000 in
theorem xt_ok_178 : xe_ok cX12_isGlass xt_178 = true := by decide +kernel
set_option maxRecDepth 100000 in
theorem xt_ok_179 : xe_ok cX12_isStep xt_179 = true := by decide +kernel
set_option maxRecDepth 100000 in
theorem xt_ok_180 : xe_ok cX12_mirrored xt_180 = true := by decide +kernel
set_option maxRecDepth 100000 in
theorem xt_ok_181 : xe_ok cX12_showsBy xt_181 = true := by decide +kernel
set_option maxRecDepth 100000 in
theorem xt_ok_182 : xe_ok cX12_showsOf xt_182 = true := by decide +kernel
set_option maxRecDepth 100000 in
theorem xt_ok_183 : xe_ok cX12_termBy xt_183 = true := by decide +kernel
set_option maxRecDepth 100000 in
theorem xt_ok_184 : xe_ok cX12_shownOf xt_184 = true := by decide +kernel
set_option maxRecDepth 100000 in
theorem xt_ok_185 : xe_ok cX12_brokenBy xt_185 = true := by decide +kernel
set_option maxRecDepth 100000 in
theorem xt_ok_186 : xe_ok cX12_isOf xt_186 = true := by decide +kernel
set_option maxRecDepth 100000 in
theorem xt_ok_187 : xe_ok cX12_glass xt_187 = true := by decide +kernel
set_option maxRecDepth 100000 in
theorem xt_ok_188 : xe_ok cX12_mark xt_188 = true := by decide +kernel
set_option maxRecDepth 100000 in
theorem xt_ok_189 : xe_ok cX12_habit xt_189 = true := by decide +kernel
set_option maxRecDepth 100000 in
theorem xt_ok_190 : xe_ok cX12_term xt_190 = true := by decide +kernel
set_option maxRecDepth 100000 in
theorem xt_ok_191 : xe_ok cX12_doStep xt_191 = true := by decide +kernel
set_option maxRecDepth 100000 in
theorem xt_ok_192 : xe_ok cX12_step xt_192 = true := by decide +kernel
set_option maxRecDepth 100000 in
theorem xt_ok_193 : xe_ok cX12_deed xt_193 = true := by decide +kernel
set_option maxRecDepth 100000 in
theorem xt_ok_194 : xe_ok cX12_brokenMany xt_194 = true := by decide +kernel
set_option maxRecDepth 100000 in
theorem xt_ok_195 : xe_ok cX12_broken xt_195 = true := by decide +kernel
set_option maxRecDepth 100000 in
theorem xt_ok_196 : xe_ok cX12_undo xt_196 = true := by decide +kernel
set_option maxRecDepth 100000 in
theorem xt_ok_197 : xe_ok cX12_keep xt_197 = true := by decide +kernel
set_option maxRecDepth 100000 in
theorem xt_ok_198 : xe_ok cX12_on xt_198 = true := by decide +kernel
set_option maxRecDepth 100000 in
theorem xt_ok_199 : xe_ok cX12_takeOut xt_199 = true := by decide +kernel
set_option maxRecDepth 100000 in
theorem xt_ok_200 : xe_ok cX12_takeTwo xt_200 = true := by decide +kernel
set_option maxRecDepth 100000 in
theorem xt_ok_201 : xe_ok cX12_layRow xt_201 = true := by decide +kernel
set_option maxRecDepth 100000 in
theorem xt_ok_202 : xe_ok cX12_show xt_202 = true := by decide +kernel
set_option maxRecDepth 100000 in
theorem xt_ok_203 : xe_ok cX12_breaksAt xt_203 = true := by decide +kernel
set_option maxRecDepth 100000 in
theorem xt_ok_204 : xe_ok cX12_breaks xt_204 = true := by decide +kernel
set_option maxRecDepth 100000 in
theorem xt_ok_205 : xe_ok cX12_alike xt_205 = true := by decide +kernel
set_option maxRecDepth 100000 in
theorem xt_ok_206 : xe_ok cX12_fit xt_206 = true := by decide +kernel
set_option maxRecDepth 100000 in
theorem xt_ok_207 : xe_ok cX12_rowsOf xt_207 = true := by decide +kernel
set_option maxRecDepth 100000 in
theorem xt_ok_208 : xe_ok cX12_layDoings xt_208 = true := by decide +kernel
set_option maxRecDepth 100000 in
theorem xt_ok_209 : xe_ok cX12_shows xt_209 = true := by decide +kernel
set_option maxRecDepth 100000 in
theorem xt_ok_210 : xe_ok cX12_ways xt_210 = true := by decide +kernel
set_option maxRecDepth 100000 in
theorem xt_ok_211 : xe_ok cX12_first xt_211 = true := by decide +kernel
set_option maxRecDepth 100000 in
theorem xt_ok_212 : xe_ok cX12_can xt_212 = true := by decide +kernel
set_option maxRecDepth 100000 in
theorem xt_ok_213 : xe_ok cX12_lawsOf xt_213 = true := by decide +kernel
set_option maxRecDepth 100000 in
theorem xt_ok_214 : xe_ok cX12_laws xt_214 = true := by decide +kernel
set_option maxRecDepth 100000 in
theorem xt_ok_215 : xe_ok cX12_bits xt_215 = true := by decide +kernel
set_option maxRecDepth 100000 in
theorem xt_ok_216 : xe_ok cX12_next xt_216 = true := by decide +kernel
set_option maxRecDepth 100000 in
theorem xt_ok_217 : xe_ok cX12_he xt_217 = true := by decide +kernel
set_option maxRecDepth 100000 in
theorem xt_ok_218 : xe_ok cX12_breaksNone xt_218 = true := by decide +kernel
set_option maxRecDepth 100000 in
theorem xt_ok_219 : xe_ok cX12_keeps xt_219 = true := by decide +kernel
set_option maxRecDepth 100000 in
theorem xt_ok_220 : xe_ok cX12_still xt_220 = true := by decide +kernel
set_option maxRecDepth 100000 in
theorem xt_ok_221 : xe_ok cX12_isSafe xt_221 = true := by decide +kernel
set_option maxRecDepth 100000 in
theorem xt_ok_222 : xe_ok cX12_gameBy xt_222 = true := by decide +kernel
set_option maxRecDepth 100000 in
theorem xt_ok_223 : xe_ok cX12_game xt_223 = true := by decide +kernel
set_option maxRecDepth 100000 in
theorem xt_ok_224 : xe_ok cX12_picks xt_224 = true := by decide +kernel
set_option maxRecDepth 100000 in
theorem xt_ok_225 : xe_ok cX12_odds xt_225 = true := by decide +kernel
set_option maxRecDepth 100000 in
theorem xt_ok_226 : xe_ok cX12_mid xt_226 = true := by decide +kernel
set_option maxRecDepth 100000 in
theorem xt_ok_227 : xe_ok cX12_lots xt_227 = true := by decide +kernel
set_option maxRecDepth 100000 in
theorem xt_ok_228 : xe_ok cX12_asked xt_228 = true := by decide +kernel
set_option maxRecDepth 100000 in
theorem xt_ok_229 : xe_ok cX12_upper xt_229 = true := by decide +kernel
set_option maxRecDepth 100000 in
theorem xt_ok_230 : xe_ok cX12_lower xt_230 = true := by decide +kernel
set_option maxRecDepth 100000 in
theorem xt_ok_231 : xe_ok cX12_kindsOf xt_231 = true := by decide +kernel
set_option maxRecDepth 100000 in
theorem xt_ok_232 : xe_ok cX12_thereOf xt_232 = true := by decide +kernel
set_option maxRecDepth 100000 in
theorem xt_ok_233 : xe_ok cX12_countOf xt_233 = true := by decide +kernel
set_option maxRecDepth 100000 in
theorem xt_ok_234 : xe_ok cX12_count xt_234 = true := by decide +kernel
set_option maxRecDepth 100000 in
theorem xt_ok_235 : xe_ok cX12_finding xt_235 = true := by decide +kernel
set_option maxRecDepth 100000 in
theorem xt_ok_236 : xe_ok cX12_findings xt_236 = true := by decide +kernel
set_option maxRecDepth 100000 in
theorem xt_ok_237 : xe_ok cX12_add xt_237 = true := by decide +kernel
set_option maxRecDepth 100000 in
theorem xt_ok_238 : xe_ok cX12_digest xt_238 = true := by decide +kernel
set_option maxRecDepth 100000 in
theorem xt_ok_239 : xe_ok cJ6_bitCount_0f7a4 xt_239 = true := by decide +kernel
set_option maxRecDepth 100000 in
theorem xt_ok_L_0 : xe_ok cL_law xt_L_0 = true := by decide +kernel
set_option maxRecDepth 100000 in
theorem xt_ok_L_1 : xe_ok cL_law xt_L_1 = true := by decide +kernel
set_option maxRecDepth 100000 in
theorem xt_ok_L_2 : xe_ok cL_law xt_L_2 = true := by decide +kernel
set_option maxRecDepth 100000 in
theorem xt_ok_L_3 : xe_ok cL_law xt_L_3 = true := by decide +kernel
set_option maxRecDepth 100000 in
theorem xt_ok_L_4 : xe_ok cL_law xt_L_4 = true := by decide +kernel
set_option maxRecDepth 100000 in
theorem xt_ok_L_5 : xe_ok cL_law xt_L_5 = true := by decide +kernel
set_option maxRecDepth 100000 in
theorem xt_ok_L_6 : xe_ok cL_law xt_L_6 = true := by decide +kernel
set_option maxRecDepth 100000 in
theorem xt_ok_L_7 : xe_ok cL_law xt_L_7 = true := by decide +kernel
set_option maxRecDepth 100000 in
theorem xt_ok_L_8 : xe_ok cL_law xt_L_8 = true := by decide +kernel
set_option maxRecDepth 100000 in
theorem xt_ok_L_9 : xe_ok cL_law xt_L_9 = true := by decide +kernel
set_option maxRecDepth 100000 in
theorem xt_ok_L_10 : xe_ok cL_law xt_L_10 = true := by decide +kernel
set_option maxRecDepth 100000 in
theorem xt_ok_L_11 : xe_ok cL_law xt_L_11 = true := by decide +kernel
set_option maxRecDepth 100000 in
theorem xt_ok_L_12 : xe_ok cL_law xt_L_12 = true := by decide +kernel
set_option maxRecDepth 100000 in
theorem xt_ok_L_13 : xe_ok cL_law xt_L_13 = true := by decide +kernel
set_option maxRecDepth 100000 in
theorem xt_ok_L_14 : xe_ok cL_law xt_L_14 = true := by decide +kernel
set_option maxRecDepth 100000 in
theorem xt_ok_L_15 : xe_ok cL_law xt_L_15 = true := by decide +kernel
set_option maxRecDepth 100000 in
theorem xt_ok_L_16 : xe_ok cL_law xt_L_16 = true := by decide +kernel
theorem xe_ok_app {cc : ByteArray} {a b : xI} (ha : xe_ok cc a = true) (hb : xe_ok cc b = true) : xe_ok cc (a ++ b) = true := by
  unfold xe_ok at *
  rw [List.all_append, ha, hb]
  rfl
set_option maxRecDepth 100000 in
theorem xt_ok_L : xe_ok cL_law xt_L = true := xe_ok_app xt_ok_L_0 (xe_ok_app xt_ok_L_1 (xe_ok_app xt_ok_L_2 (xe_ok_app xt_ok_L_3 (xe_ok_app xt_ok_L_4 (xe_ok_app xt_ok_L_5 (xe_ok_app xt_ok_L_6 (xe_ok_app xt_ok_L_7 (xe_ok_app xt_ok_L_8 (xe_ok_app xt_ok_L_9 (xe_ok_app xt_ok_L_10 (xe_ok_app xt_ok_L_11 (xe_ok_app xt_ok_L_12 (xe_ok_app xt_ok_L_13 (xe_ok_app xt_ok_L_14 (xe_ok_app xt_ok_L_15 (xt_ok_L_16))))))))))))))))
