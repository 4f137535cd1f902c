set_option maxRecDepth 100000 in
theorem xt_ok_0 : xe_ok cX0_init xt_0 = true := by decide +kernel
set_option maxRecDepth 100000 in
theorem xt_ok_1 : xe_ok cX0_isMissing xt_1 = true := by decide +kernel
set_option maxRecDepth 100000 in
theorem xt_ok_2 : xe_ok cX0_size xt_2 = true := by decide +kernel
set_option maxRecDepth 100000 in
theorem xt_ok_3 : xe_ok cX0_open xt_3 = true := by decide +kernel
set_option maxRecDepth 100000 in
theorem xt_ok_4 : xe_ok cX1_init xt_4 = true := by decide +kernel
set_option maxRecDepth 100000 in
theorem xt_ok_5 : xe_ok cX2_init xt_5 = true := by decide +kernel
set_option maxRecDepth 100000 in
theorem xt_ok_6 : xe_ok cX2_size xt_6 = true := by decide +kernel
set_option maxRecDepth 100000 in
theorem xt_ok_7 : xe_ok cX2_isMissing xt_7 = true := by decide +kernel
set_option maxRecDepth 100000 in
theorem xt_ok_8 : xe_ok cX2_drop xt_8 = true := by decide +kernel
set_option maxRecDepth 100000 in
theorem xt_ok_9 : xe_ok cX2_cutTo xt_9 = true := by decide +kernel
set_option maxRecDepth 100000 in
theorem xt_ok_10 : xe_ok cX2_howManyBroke xt_10 = true := by decide +kernel
set_option maxRecDepth 100000 in
theorem xt_ok_11 : xe_ok cX2_firstThatBroke xt_11 = true := by decide +kernel
set_option maxRecDepth 100000 in
theorem xt_ok_12 : xe_ok cX3_init xt_12 = true := by decide +kernel
set_option maxRecDepth 100000 in
theorem xt_ok_13 : xe_ok cX4_init xt_13 = true := by decide +kernel
set_option maxRecDepth 100000 in
theorem xt_ok_14 : xe_ok cX5_init xt_14 = true := by decide +kernel
set_option maxRecDepth 100000 in
theorem xt_ok_15 : xe_ok cX6_init xt_15 = true := by decide +kernel
set_option maxRecDepth 100000 in
theorem xt_ok_16 : xe_ok cX7_init xt_16 = true := by decide +kernel
set_option maxRecDepth 100000 in
theorem xt_ok_17 : xe_ok cX8_init xt_17 = true := by decide +kernel
set_option maxRecDepth 100000 in
theorem xt_ok_18 : xe_ok cX8_glasses xt_18 = true := by decide +kernel
set_option maxRecDepth 100000 in
theorem xt_ok_19 : xe_ok cX8_terms xt_19 = true := by decide +kernel
set_option maxRecDepth 100000 in
theorem xt_ok_20 : xe_ok cX8_thought xt_20 = true := by decide +kernel
set_option maxRecDepth 100000 in
theorem xt_ok_21 : xe_ok cX9_init xt_21 = true := by decide +kernel
set_option maxRecDepth 100000 in
theorem xt_ok_22 : xe_ok cX10_init xt_22 = true := by decide +kernel
set_option maxRecDepth 100000 in
theorem xt_ok_23 : xe_ok cX11_init xt_23 = true := by decide +kernel
set_option maxRecDepth 100000 in
theorem xt_ok_24 : xe_ok cX11_row xt_24 = true := by decide +kernel
set_option maxRecDepth 100000 in
theorem xt_ok_25 : xe_ok cX11_lay xt_25 = true := by decide +kernel
set_option maxRecDepth 100000 in
theorem xt_ok_26 : xe_ok cX11_at xt_26 = true := by decide +kernel
set_option maxRecDepth 100000 in
theorem xt_ok_27 : xe_ok cX11_tear xt_27 = true := by decide +kernel
set_option maxRecDepth 100000 in
theorem xt_ok_28 : xe_ok cX11_copy xt_28 = true := by decide +kernel
set_option maxRecDepth 100000 in
theorem xt_ok_29 : xe_ok cX11_mean xt_29 = true := by decide +kernel
set_option maxRecDepth 100000 in
theorem xt_ok_30 : xe_ok cX11_text xt_30 = true := by decide +kernel
set_option maxRecDepth 100000 in
theorem xt_ok_31 : xe_ok cX11_put xt_31 = true := by decide +kernel
set_option maxRecDepth 100000 in
theorem xt_ok_32 : xe_ok cX11_fault xt_32 = true := by decide +kernel
set_option maxRecDepth 100000 in
theorem xt_ok_33 : xe_ok cX11_room xt_33 = true := by decide +kernel
set_option maxRecDepth 100000 in
theorem xt_ok_34 : xe_ok cX11_glass xt_34 = true := by decide +kernel
set_option maxRecDepth 100000 in
theorem xt_ok_35 : xe_ok cX11_mark xt_35 = true := by decide +kernel
set_option maxRecDepth 100000 in
theorem xt_ok_36 : xe_ok cX11_habit xt_36 = true := by decide +kernel
set_option maxRecDepth 100000 in
theorem xt_ok_37 : xe_ok cX11_term xt_37 = true := by decide +kernel
set_option maxRecDepth 100000 in
theorem xt_ok_38 : xe_ok cX11_step xt_38 = true := by decide +kernel
set_option maxRecDepth 100000 in
theorem xt_ok_39 : xe_ok cX11_deed xt_39 = true := by decide +kernel
set_option maxRecDepth 100000 in
theorem xt_ok_40 : xe_ok cX11_broken xt_40 = true := by decide +kernel
set_option maxRecDepth 100000 in
theorem xt_ok_41 : xe_ok cX11_undo xt_41 = true := by decide +kernel
set_option maxRecDepth 100000 in
theorem xt_ok_42 : xe_ok cX11_keep xt_42 = true := by decide +kernel
set_option maxRecDepth 100000 in
theorem xt_ok_43 : xe_ok cX11_on xt_43 = true := by decide +kernel
set_option maxRecDepth 100000 in
theorem xt_ok_44 : xe_ok cX11_show xt_44 = true := by decide +kernel
set_option maxRecDepth 100000 in
theorem xt_ok_45 : xe_ok cX11_breaks xt_45 = true := by decide +kernel
set_option maxRecDepth 100000 in
theorem xt_ok_46 : xe_ok cX11_alike xt_46 = true := by decide +kernel
set_option maxRecDepth 100000 in
theorem xt_ok_47 : xe_ok cX11_fit xt_47 = true := by decide +kernel
set_option maxRecDepth 100000 in
theorem xt_ok_48 : xe_ok cX11_ways xt_48 = true := by decide +kernel
set_option maxRecDepth 100000 in
theorem xt_ok_49 : xe_ok cX11_first xt_49 = true := by decide +kernel
set_option maxRecDepth 100000 in
theorem xt_ok_50 : xe_ok cX11_can xt_50 = true := by decide +kernel
set_option maxRecDepth 100000 in
theorem xt_ok_51 : xe_ok cX11_laws xt_51 = true := by decide +kernel
set_option maxRecDepth 100000 in
theorem xt_ok_52 : xe_ok cX11_next xt_52 = true := by decide +kernel
set_option maxRecDepth 100000 in
theorem xt_ok_53 : xe_ok cX11_he xt_53 = true := by decide +kernel
set_option maxRecDepth 100000 in
theorem xt_ok_54 : xe_ok cX11_keeps xt_54 = true := by decide +kernel
set_option maxRecDepth 100000 in
theorem xt_ok_55 : xe_ok cX11_still xt_55 = true := by decide +kernel
set_option maxRecDepth 100000 in
theorem xt_ok_56 : xe_ok cX11_game xt_56 = true := by decide +kernel
set_option maxRecDepth 100000 in
theorem xt_ok_57 : xe_ok cX11_picks xt_57 = true := by decide +kernel
set_option maxRecDepth 100000 in
theorem xt_ok_58 : xe_ok cX11_odds xt_58 = true := by decide +kernel
set_option maxRecDepth 100000 in
theorem xt_ok_59 : xe_ok cX11_mid xt_59 = true := by decide +kernel
set_option maxRecDepth 100000 in
theorem xt_ok_60 : xe_ok cX11_lots xt_60 = true := by decide +kernel
set_option maxRecDepth 100000 in
theorem xt_ok_61 : xe_ok cX11_asked xt_61 = true := by decide +kernel
set_option maxRecDepth 100000 in
theorem xt_ok_62 : xe_ok cX11_upper xt_62 = true := by decide +kernel
set_option maxRecDepth 100000 in
theorem xt_ok_63 : xe_ok cX11_lower xt_63 = true := by decide +kernel
set_option maxRecDepth 100000 in
theorem xt_ok_64 : xe_ok cX11_count xt_64 = true := by decide +kernel
set_option maxRecDepth 100000 in
theorem xt_ok_65 : xe_ok cX11_finding xt_65 = true := by decide +kernel
set_option maxRecDepth 100000 in
theorem xt_ok_66 : xe_ok cX11_findings xt_66 = true := by decide +kernel
set_option maxRecDepth 100000 in
theorem xt_ok_67 : xe_ok cX11_digest xt_67 = true := by decide +kernel
set_option maxRecDepth 100000 in
theorem xt_ok_68 : xe_ok cX11_refuse xt_68 = true := by decide +kernel
set_option maxRecDepth 100000 in
theorem xt_ok_69 : xe_ok cX11_isRow xt_69 = true := by decide +kernel
set_option maxRecDepth 100000 in
theorem xt_ok_70 : xe_ok cX11_isText xt_70 = true := by decide +kernel
set_option maxRecDepth 100000 in
theorem xt_ok_71 : xe_ok cX11_isKept xt_71 = true := by decide +kernel
set_option maxRecDepth 100000 in
theorem xt_ok_72 : xe_ok cX11_isStep xt_72 = true := by decide +kernel
set_option maxRecDepth 100000 in
theorem xt_ok_73 : xe_ok cX11_isGlass xt_73 = true := by decide +kernel
set_option maxRecDepth 100000 in
theorem xt_ok_74 : xe_ok cX11_findingOfPlace xt_74 = true := by decide +kernel
set_option maxRecDepth 100000 in
theorem xt_ok_75 : xe_ok cX11_findingOfSteps xt_75 = true := by decide +kernel
set_option maxRecDepth 100000 in
theorem xt_ok_76 : xe_ok cX11_findingOfPair xt_76 = true := by decide +kernel
set_option maxRecDepth 100000 in
theorem xt_ok_77 : xe_ok cX11_newPane xt_77 = true := by decide +kernel
set_option maxRecDepth 100000 in
theorem xt_ok_78 : xe_ok cX11_glassesOf xt_78 = true := by decide +kernel
set_option maxRecDepth 100000 in
theorem xt_ok_79 : xe_ok cX11_keptOnes xt_79 = true := by decide +kernel
set_option maxRecDepth 100000 in
theorem xt_ok_80 : xe_ok cX11_howManyThere xt_80 = true := by decide +kernel
set_option maxRecDepth 100000 in
theorem xt_ok_81 : xe_ok cX11_digestOf xt_81 = true := by decide +kernel
set_option maxRecDepth 100000 in
theorem xt_ok_82 : xe_ok cX12_init xt_82 = true := by decide +kernel
set_option maxRecDepth 100000 in
theorem xt_ok_83 : xe_ok cX12_in xt_83 = true := by decide +kernel
set_option maxRecDepth 100000 in
theorem xt_ok_84 : xe_ok cX12_finds xt_84 = true := by decide +kernel
set_option maxRecDepth 100000 in
theorem xt_ok_85 : xe_ok cX12_isRow xt_85 = true := by decide +kernel
set_option maxRecDepth 100000 in
theorem xt_ok_86 : xe_ok cX12_isText xt_86 = true := by decide +kernel
set_option maxRecDepth 100000 in
theorem xt_ok_87 : xe_ok cX12_row xt_87 = true := by decide +kernel
set_option maxRecDepth 100000 in
theorem xt_ok_88 : xe_ok cX12_wrongAt xt_88 = true := by decide +kernel
set_option maxRecDepth 100000 in
theorem xt_ok_89 : xe_ok cX12_lay xt_89 = true := by decide +kernel
set_option maxRecDepth 100000 in
theorem xt_ok_90 : xe_ok cX12_at xt_90 = true := by decide +kernel
set_option maxRecDepth 100000 in
theorem xt_ok_91 : xe_ok cX12_tear xt_91 = true := by decide +kernel
set_option maxRecDepth 100000 in
theorem xt_ok_92 : xe_ok cX12_copy xt_92 = true := by decide +kernel
set_option maxRecDepth 100000 in
theorem xt_ok_93 : xe_ok cX12_mean xt_93 = true := by decide +kernel
set_option maxRecDepth 100000 in
theorem xt_ok_94 : xe_ok cX12_text xt_94 = true := by decide +kernel
set_option maxRecDepth 100000 in
theorem xt_ok_95 : xe_ok cX12_put xt_95 = true := by decide +kernel
set_option maxRecDepth 100000 in
theorem xt_ok_96 : xe_ok cX12_fault xt_96 = true := by decide +kernel
set_option maxRecDepth 100000 in
theorem xt_ok_97 : xe_ok cX12_room xt_97 = true := by decide +kernel
set_option maxRecDepth 100000 in
theorem xt_ok_98 : xe_ok cX12_isGlass xt_98 = true := by decide +kernel
set_option maxRecDepth 100000 in
theorem xt_ok_99 : xe_ok cX12_isStep xt_99 = true := by decide +kernel
set_option maxRecDepth 100000 in
theorem xt_ok_100 : xe_ok cX12_glass xt_100 = true := by decide +kernel
set_option maxRecDepth 100000 in
theorem xt_ok_101 : xe_ok cX12_mark xt_101 = true := by decide +kernel
set_option maxRecDepth 100000 in
theorem xt_ok_102 : xe_ok cX12_habit xt_102 = true := by decide +kernel
set_option maxRecDepth 100000 in
theorem xt_ok_103 : xe_ok cX12_term xt_103 = true := by decide +kernel
set_option maxRecDepth 100000 in
theorem xt_ok_104 : xe_ok cX12_step xt_104 = true := by decide +kernel
set_option maxRecDepth 100000 in
theorem xt_ok_105 : xe_ok cX12_deed xt_105 = true := by decide +kernel
set_option maxRecDepth 100000 in
theorem xt_ok_106 : xe_ok cX12_brokenMany xt_106 = true := by decide +kernel
set_option maxRecDepth 100000 in
theorem xt_ok_107 : xe_ok cX12_broken xt_107 = true := by decide +kernel
set_option maxRecDepth 100000 in
theorem xt_ok_108 : xe_ok cX12_undo xt_108 = true := by decide +kernel
set_option maxRecDepth 100000 in
theorem xt_ok_109 : xe_ok cX12_keep xt_109 = true := by decide +kernel
set_option maxRecDepth 100000 in
theorem xt_ok_110 : xe_ok cX12_on xt_110 = true := by decide +kernel
set_option maxRecDepth 100000 in
theorem xt_ok_111 : xe_ok cX12_takeOut xt_111 = true := by decide +kernel
set_option maxRecDepth 100000 in
theorem xt_ok_112 : xe_ok cX12_takeTwo xt_112 = true := by decide +kernel
set_option maxRecDepth 100000 in
theorem xt_ok_113 : xe_ok cX12_show xt_113 = true := by decide +kernel
set_option maxRecDepth 100000 in
theorem xt_ok_114 : xe_ok cX12_breaks xt_114 = true := by decide +kernel
set_option maxRecDepth 100000 in
theorem xt_ok_115 : xe_ok cX12_alike xt_115 = true := by decide +kernel
set_option maxRecDepth 100000 in
theorem xt_ok_116 : xe_ok cX12_fit xt_116 = true := by decide +kernel
set_option maxRecDepth 100000 in
theorem xt_ok_117 : xe_ok cX12_ways xt_117 = true := by decide +kernel
set_option maxRecDepth 100000 in
theorem xt_ok_118 : xe_ok cX12_first xt_118 = true := by decide +kernel
set_option maxRecDepth 100000 in
theorem xt_ok_119 : xe_ok cX12_can xt_119 = true := by decide +kernel
set_option maxRecDepth 100000 in
theorem xt_ok_120 : xe_ok cX12_laws xt_120 = true := by decide +kernel
set_option maxRecDepth 100000 in
theorem xt_ok_121 : xe_ok cX12_next xt_121 = true := by decide +kernel
set_option maxRecDepth 100000 in
theorem xt_ok_122 : xe_ok cX12_he xt_122 = true := by decide +kernel
set_option maxRecDepth 100000 in
theorem xt_ok_123 : xe_ok cX12_keeps xt_123 = true := by decide +kernel
set_option maxRecDepth 100000 in
theorem xt_ok_124 : xe_ok cX12_still xt_124 = true := by decide +kernel
set_option maxRecDepth 100000 in
theorem xt_ok_125 : xe_ok cX12_game xt_125 = true := by decide +kernel
set_option maxRecDepth 100000 in
theorem xt_ok_126 : xe_ok cX12_picks xt_126 = true := by decide +kernel
set_option maxRecDepth 100000 in
theorem xt_ok_127 : xe_ok cX12_odds xt_127 = true := by decide +kernel
set_option maxRecDepth 100000 in
theorem xt_ok_128 : xe_ok cX12_mid xt_128 = true := by decide +kernel
set_option maxRecDepth 100000 in
theorem xt_ok_129 : xe_ok cX12_lots xt_129 = true := by decide +kernel
set_option maxRecDepth 100000 in
theorem xt_ok_130 : xe_ok cX12_asked xt_130 = true := by decide +kernel
set_option maxRecDepth 100000 in
theorem xt_ok_131 : xe_ok cX12_upper xt_131 = true := by decide +kernel
set_option maxRecDepth 100000 in
theorem xt_ok_132 : xe_ok cX12_lower xt_132 = true := by decide +kernel
set_option maxRecDepth 100000 in
theorem xt_ok_133 : xe_ok cX12_kindsOf xt_133 = true := by decide +kernel
set_option maxRecDepth 100000 in
theorem xt_ok_134 : xe_ok cX12_thereOf xt_134 = true := by decide +kernel
set_option maxRecDepth 100000 in
theorem xt_ok_135 : xe_ok cX12_countOf xt_135 = true := by decide +kernel
set_option maxRecDepth 100000 in
theorem xt_ok_136 : xe_ok cX12_count xt_136 = true := by decide +kernel
set_option maxRecDepth 100000 in
theorem xt_ok_137 : xe_ok cX12_finding xt_137 = true := by decide +kernel
set_option maxRecDepth 100000 in
theorem xt_ok_138 : xe_ok cX12_findings xt_138 = true := by decide +kernel
set_option maxRecDepth 100000 in
theorem xt_ok_139 : xe_ok cX12_add xt_139 = true := by decide +kernel
set_option maxRecDepth 100000 in
theorem xt_ok_140 : xe_ok cX12_digest xt_140 = true := by decide +kernel
set_option maxRecDepth 100000 in
theorem xt_ok_L_0 : xe_ok cL_law xt_L_0 = true := by decide +kernel
set_option maxRecDepth 100000 in
theorem xt_ok_L_1 : xe_ok cL_law xt_L_1 = true := by decide +kernel
set_option maxRecDepth 100000 in
theorem xt_ok_L_2 : xe_ok cL_law xt_L_2 = true := by decide +kernel
set_option maxRecDepth 100000 in
theorem xt_ok_L_3 : xe_ok cL_law xt_L_3 = true := by decide +kernel
set_option maxRecDepth 100000 in
theorem xt_ok_L_4 : xe_ok cL_law xt_L_4 = true := by decide +kernel
set_option maxRecDepth 100000 in
theorem xt_ok_L_5 : xe_ok cL_law xt_L_5 = true := by decide +kernel
set_option maxRecDepth 100000 in
theorem xt_ok_L_6 : xe_ok cL_law xt_L_6 = true := by decide +kernel
set_option maxRecDepth 100000 in
theorem xt_ok_L_7 : xe_ok cL_law xt_L_7 = true := by decide +kernel
set_option maxRecDepth 100000 in
theorem xt_ok_L_8 : xe_ok cL_law xt_L_8 = true := by decide +kernel
set_option maxRecDepth 100000 in
theorem xt_ok_L_9 : xe_ok cL_law xt_L_9 = true := by decide +kernel
set_option maxRecDepth 100000 in
theorem xt_ok_L_10 : xe_ok cL_law xt_L_10 = true := by decide +kernel
set_option maxRecDepth 100000 in
theorem xt_ok_L_11 : xe_ok cL_law xt_L_11 = true := by decide +kernel
set_option maxRecDepth 100000 in
theorem xt_ok_L_12 : xe_ok cL_law xt_L_12 = true := by decide +kernel
set_option maxRecDepth 100000 in
theorem xt_ok_L_13 : xe_ok cL_law xt_L_13 = true := by decide +kernel
set_option maxRecDepth 100000 in
theorem xt_ok_L_14 : xe_ok cL_law xt_L_14 = true := by decide +kernel
set_option maxRecDepth 100000 in
theorem xt_ok_L_15 : xe_ok cL_law xt_L_15 = true := by decide +kernel
set_option maxRecDepth 100000 in
theorem xt_ok_L_16 : xe_ok cL_law xt_L_16 = true := by decide +kernel
theorem xe_ok_app {cc : ByteArray} {a b : xI} (ha : xe_ok cc a = true) (hb : xe_ok cc b = true) : xe_ok cc (a ++ b) = true := by
  unfold xe_ok at *
  rw [List.all_append, ha, hb]
  rfl
set_option maxRecDepth 100000 in
theorem xt_ok_L : xe_ok cL_law xt_L = true := xe_ok_app xt_ok_L_0 (xe_ok_app xt_ok_L_1 (xe_ok_app xt_ok_L_2 (xe_ok_app xt_ok_L_3 (xe_ok_app xt_ok_L_4 (xe_ok_app xt_ok_L_5 (xe_ok_app xt_ok_L_6 (xe_ok_app xt_ok_L_7 (xe_ok_app xt_ok_L_8 (xe_ok_app xt_ok_L_9 (xe_ok_app xt_ok_L_10 (xe_ok_app xt_ok_L_11 (xe_ok_app xt_ok_L_12 (xe_ok_app xt_ok_L_13 (xe_ok_app xt_ok_L_14 (xe_ok_app xt_ok_L_15 (xt_ok_L_16))))))))))))))))
