set_option maxRecDepth 100000 in
theorem xt_ok_0 : xe_ok cX0_init xt_0 = true := by decide +kernel
set_option maxRecDepth 100000 in
theorem xt_ok_1 : xe_ok cX0_isMissing xt_1 = true := by decide +kernel
set_option maxRecDepth 100000 in
theorem xt_ok_2 : xe_ok cX0_size xt_2 = true := by decide +kernel
set_option maxRecDepth 100000 in
theorem xt_ok_3 : xe_ok cX0_open xt_3 = true := by decide +kernel
set_option maxRecDepth 100000 in
theorem xt_ok_4 : xe_ok cX1_init xt_4 = true := by decide +kernel
set_option maxRecDepth 100000 in
theorem xt_ok_5 : xe_ok cX2_init xt_5 = true := by decide +kernel
set_option maxRecDepth 100000 in
theorem xt_ok_6 : xe_ok cX2_size xt_6 = true := by decide +kernel
set_option maxRecDepth 100000 in
theorem xt_ok_7 : xe_ok cX2_isMissing xt_7 = true := by decide +kernel
set_option maxRecDepth 100000 in
theorem xt_ok_8 : xe_ok cX2_drop xt_8 = true := by decide +kernel
set_option maxRecDepth 100000 in
theorem xt_ok_9 : xe_ok cX2_cutTo xt_9 = true := by decide +kernel
set_option maxRecDepth 100000 in
theorem xt_ok_10 : xe_ok cX2_howManyBroke xt_10 = true := by decide +kernel
set_option maxRecDepth 100000 in
theorem xt_ok_11 : xe_ok cX2_firstThatBroke xt_11 = true := by decide +kernel
set_option maxRecDepth 100000 in
theorem xt_ok_12 : xe_ok cX3_init xt_12 = true := by decide +kernel
set_option maxRecDepth 100000 in
theorem xt_ok_13 : xe_ok cX4_init xt_13 = true := by decide +kernel
set_option maxRecDepth 100000 in
theorem xt_ok_14 : xe_ok cX5_init xt_14 = true := by decide +kernel
set_option maxRecDepth 100000 in
theorem xt_ok_15 : xe_ok cX6_init xt_15 = true := by decide +kernel
set_option maxRecDepth 100000 in
theorem xt_ok_16 : xe_ok cX7_init xt_16 = true := by decide +kernel
set_option maxRecDepth 100000 in
theorem xt_ok_17 : xe_ok cX8_init xt_17 = true := by decide +kernel
set_option maxRecDepth 100000 in
theorem xt_ok_18 : xe_ok cX8_glasses xt_18 = true := by decide +kernel
set_option maxRecDepth 100000 in
theorem xt_ok_19 : xe_ok cX8_terms xt_19 = true := by decide +kernel
set_option maxRecDepth 100000 in
theorem xt_ok_20 : xe_ok cX8_thought xt_20 = true := by decide +kernel
set_option maxRecDepth 100000 in
theorem xt_ok_21 : xe_ok cX9_init xt_21 = true := by decide +kernel
set_option maxRecDepth 100000 in
theorem xt_ok_22 : xe_ok cX10_init xt_22 = true := by decide +kernel
set_option maxRecDepth 100000 in
theorem xt_ok_23 : xe_ok cX11_init xt_23 = true := by decide +kernel
set_option maxRecDepth 100000 in
theorem xt_ok_24 : xe_ok cX11_row xt_24 = true := by decide +kernel
set_option maxRecDepth 100000 in
theorem xt_ok_25 : xe_ok cX11_lay xt_25 = true := by decide +kernel
set_option maxRecDepth 100000 in
theorem xt_ok_26 : xe_ok cX11_at xt_26 = true := by decide +kernel
set_option maxRecDepth 100000 in
theorem xt_ok_27 : xe_ok cX11_tear xt_27 = true := by decide +kernel
set_option maxRecDepth 100000 in
theorem xt_ok_28 : xe_ok cX11_copy xt_28 = true := by decide +kernel
set_option maxRecDepth 100000 in
theorem xt_ok_29 : xe_ok cX11_mean xt_29 = true := by decide +kernel
set_option maxRecDepth 100000 in
theorem xt_ok_30 : xe_ok cX11_text xt_30 = true := by decide +kernel
set_option maxRecDepth 100000 in
theorem xt_ok_31 : xe_ok cX11_put xt_31 = true := by decide +kernel
set_option maxRecDepth 100000 in
theorem xt_ok_32 : xe_ok cX11_fault xt_32 = true := by decide +kernel
set_option maxRecDepth 100000 in
theorem xt_ok_33 : xe_ok cX11_room xt_33 = true := by decide +kernel
set_option maxRecDepth 100000 in
theorem xt_ok_34 : xe_ok cX11_glass xt_34 = true := by decide +kernel
set_option maxRecDepth 100000 in
theorem xt_ok_35 : xe_ok cX11_mark xt_35 = true := by decide +kernel
set_option maxRecDepth 100000 in
theorem xt_ok_36 : xe_ok cX11_habit xt_36 = true := by decide +kernel
set_option maxRecDepth 100000 in
theorem xt_ok_37 : xe_ok cX11_term xt_37 = true := by decide +kernel
set_option maxRecDepth 100000 in
theorem xt_ok_38 : xe_ok cX11_step xt_38 = true := by decide +kernel
set_option maxRecDepth 100000 in
theorem xt_ok_39 : xe_ok cX11_deed xt_39 = true := by decide +kernel
set_option maxRecDepth 100000 in
theorem xt_ok_40 : xe_ok cX11_broken xt_40 = true := by decide +kernel
set_option maxRecDepth 100000 in
theorem xt_ok_41 : xe_ok cX11_undo xt_41 = true := by decide +kernel
set_option maxRecDepth 100000 in
theorem xt_ok_42 : xe_ok cX11_keep xt_42 = true := by decide +kernel
set_option maxRecDepth 100000 in
theorem xt_ok_43 : xe_ok cX11_on xt_43 = true := by decide +kernel
set_option maxRecDepth 100000 in
theorem xt_ok_44 : xe_ok cX11_show xt_44 = true := by decide +kernel
set_option maxRecDepth 100000 in
theorem xt_ok_45 : xe_ok cX11_breaks xt_45 = true := by decide +kernel
set_option maxRecDepth 100000 in
theorem xt_ok_46 : xe_ok cX11_alike xt_46 = true := by decide +kernel
set_option maxRecDepth 100000 in
theorem xt_ok_47 : xe_ok cX11_fit xt_47 = true := by decide +kernel
set_option maxRecDepth 100000 in
theorem xt_ok_48 : xe_ok cX11_ways xt_48 = true := by decide +kernel
set_option maxRecDepth 100000 in
theorem xt_ok_49 : xe_ok cX11_first xt_49 = true := by decide +kernel
set_option maxRecDepth 100000 in
theorem xt_ok_50 : xe_ok cX11_can xt_50 = true := by decide +kernel
set_option maxRecDepth 100000 in
theorem xt_ok_51 : xe_ok cX11_laws xt_51 = true := by decide +kernel
set_option maxRecDepth 100000 in
theorem xt_ok_52 : xe_ok cX11_next xt_52 = true := by decide +kernel
set_option maxRecDepth 100000 in
theorem xt_ok_53 : xe_ok cX11_he xt_53 = true := by decide +kernel
set_option maxRecDepth 100000 in
theorem xt_ok_54 : xe_ok cX11_keeps xt_54 = true := by decide +kernel
set_option maxRecDepth 100000 in
theorem xt_ok_55 : xe_ok cX11_still xt_55 = true := by decide +kernel
set_option maxRecDepth 100000 in
theorem xt_ok_56 : xe_ok cX11_game xt_56 = true := by decide +kernel
set_option maxRecDepth 100000 in
theorem xt_ok_57 : xe_ok cX11_picks xt_57 = true := by decide +kernel
set_option maxRecDepth 100000 in
theorem xt_ok_58 : xe_ok cX11_odds xt_58 = true := by decide +kernel
set_option maxRecDepth 100000 in
theorem xt_ok_59 : xe_ok cX11_mid xt_59 = true := by decide +kernel
set_option maxRecDepth 100000 in
theorem xt_ok_60 : xe_ok cX11_lots xt_60 = true := by decide +kernel
set_option maxRecDepth 100000 in
theorem xt_ok_61 : xe_ok cX11_asked xt_61 = true := by decide +kernel
set_option maxRecDepth 100000 in
theorem xt_ok_62 : xe_ok cX11_upper xt_62 = true := by decide +kernel
set_option maxRecDepth 100000 in
theorem xt_ok_63 : xe_ok cX11_lower xt_63 = true := by decide +kernel
set_option maxRecDepth 100000 in
theorem xt_ok_64 : xe_ok cX11_count xt_64 = true := by decide +kernel
set_option maxRecDepth 100000 in
theorem xt_ok_65 : xe_ok cX11_finding xt_65 = true := by decide +kernel
set_option maxRecDepth 100000 in
theorem xt_ok_66 : xe_ok cX11_findings xt_66 = true := by decide +kernel
set_option maxRecDepth 100000 in
theorem xt_ok_67 : xe_ok cX11_digest xt_67 = true := by decide +kernel
set_option maxRecDepth 100000 in
theorem xt_ok_68 : xe_ok cX11_refuse xt_68 = true := by decide +kernel
set_option maxRecDepth 100000 in
theorem xt_ok_69 : xe_ok cX11_isRow xt_69 = true := by decide +kernel
set_option maxRecDepth 100000 in
theorem xt_ok_70 : xe_ok cX11_isText xt_70 = true := by decide +kernel
set_option maxRecDepth 100000 in
theorem xt_ok_71 : xe_ok cX11_isKept xt_71 = true := by decide +kernel
set_option maxRecDepth 100000 in
theorem xt_ok_72 : xe_ok cX11_isStep xt_72 = true := by decide +kernel
set_option maxRecDepth 100000 in
theorem xt_ok_73 : xe_ok cX11_isGlass xt_73 = true := by decide +kernel
set_option maxRecDepth 100000 in
theorem xt_ok_74 : xe_ok cX11_findingOfPlace xt_74 = true := by decide +kernel
set_option maxRecDepth 100000 in
theorem xt_ok_75 : xe_ok cX11_findingOfSteps xt_75 = true := by decide +kernel
set_option maxRecDepth 100000 in
theorem xt_ok_76 : xe_ok cX11_findingOfPair xt_76 = true := by decide +kernel
set_option maxRecDepth 100000 in
theorem xt_ok_77 : xe_ok cX11_newPane xt_77 = true := by decide +kernel
set_option maxRecDepth 100000 in
theorem xt_ok_78 : xe_ok cX11_glassesOf xt_78 = true := by decide +kernel
set_option maxRecDepth 100000 in
theorem xt_ok_79 : xe_ok cX11_keptOnes xt_79 = true := by decide +kernel
set_option maxRecDepth 100000 in
theorem xt_ok_80 : xe_ok cX11_howManyThere xt_80 = true := by decide +kernel
set_option maxRecDepth 100000 in
theorem xt_ok_81 : xe_ok cX11_digestOf xt_81 = true := by decide +kernel
set_option maxRecDepth 100000 in
theorem xt_ok_82 : xe_ok cX12_init xt_82 = true := by decide +kernel
set_option maxRecDepth 100000 in
theorem xt_ok_83 : xe_ok cX12_in xt_83 = true := by decide +kernel
set_option maxRecDepth 100000 in
theorem xt_ok_84 : xe_ok cX12_finds xt_84 = true := by decide +kernel
set_option maxRecDepth 100000 in
theorem xt_ok_85 : xe_ok cX12_isRow xt_85 = true := by decide +kernel
set_option maxRecDepth 100000 in
theorem xt_ok_86 : xe_ok cX12_isText xt_86 = true := by decide +kernel
set_option maxRecDepth 100000 in
theorem xt_ok_87 : xe_ok cX12_row xt_87 = true := by decide +kernel
set_option maxRecDepth 100000 in
theorem xt_ok_88 : xe_ok cX12_wrongAt xt_88 = true := by decide +kernel
set_option maxRecDepth 100000 in
theorem xt_ok_89 : xe_ok cX12_lay xt_89 = true := by decide +kernel
set_option maxRecDepth 100000 in
theorem xt_ok_90 : xe_ok cX12_at xt_90 = true := by decide +kernel
set_option maxRecDepth 100000 in
theorem xt_ok_91 : xe_ok cX12_tear xt_91 = true := by decide +kernel
set_option maxRecDepth 100000 in
theorem xt_ok_92 : xe_ok cX12_copy xt_92 = true := by decide +kernel
set_option maxRecDepth 100000 in
theorem xt_ok_93 : xe_ok cX12_mean xt_93 = true := by decide +kernel
set_option maxRecDepth 100000 in
theorem xt_ok_94 : xe_ok cX12_text xt_94 = true := by decide +kernel
set_option maxRecDepth 100000 in
theorem xt_ok_95 : xe_ok cX12_put xt_95 = true := by decide +kernel
set_option maxRecDepth 100000 in
theorem xt_ok_96 : xe_ok cX12_fault xt_96 = true := by decide +kernel
set_option maxRecDepth 100000 in
theorem xt_ok_97 : xe_ok cX12_room xt_97 = true := by decide +kernel
set_option maxRecDepth 100000 in
theorem xt_ok_98 : xe_ok cX12_isGlass xt_98 = true := by decide +kernel
set_option maxRecDepth 100000 in
theorem xt_ok_99 : xe_ok cX12_isStep xt_99 = true := by decide +kernel
set_option maxRecDepth 100000 in
theorem xt_ok_100 : xe_ok cX12_glass xt_100 = true := by decide +kernel
set_option maxRecDepth 100000 in
theorem xt_ok_101 : xe_ok cX12_mark xt_101 = true := by decide +kernel
set_option maxRecDepth 100000 in
theorem xt_ok_102 : xe_ok cX12_habit xt_102 = true := by decide +kernel
set_option maxRecDepth 100000 in
theorem xt_ok_103 : xe_ok cX12_term xt_103 = true := by decide +kernel
set_option maxRecDepth 100000 in
theorem xt_ok_104 : xe_ok cX12_step xt_104 = true := by decide +kernel
set_option maxRecDepth 100000 in
theorem xt_ok_105 : xe_ok cX12_deed xt_105 = true := by decide +kernel
set_option maxRecDepth 100000 in
theorem xt_ok_106 : xe_ok cX12_brokenMany xt_106 = true := by decide +kernel
set_option maxRecDepth 100000 in
theorem xt_ok_107 : xe_ok cX12_broken xt_107 = true := by decide +kernel
set_option maxRecDepth 100000 in
theorem xt_ok_108 : xe_ok cX12_undo xt_108 = true := by decide +kernel
set_option maxRecDepth 100000 in
theorem xt_ok_109 : xe_ok cX12_keep xt_109 = true := by decide +kernel
set_option maxRecDepth 100000 in
theorem xt_ok_110 : xe_ok cX12_on xt_110 = true := by decide +kernel
set_option maxRecDepth 100000 in
theorem xt_ok_111 : xe_ok cX12_takeOut xt_111 = true := by decide +kernel
set_option maxRecDepth 100000 in
theorem xt_ok_112 : xe_ok cX12_takeTwo xt_112 = true := by decide +kernel
set_option maxRecDepth 100000 in
theorem xt_ok_113 : xe_ok cX12_show xt_113 = true := by decide +kernel
set_option maxRecDepth 100000 in
theorem xt_ok_114 : xe_ok cX12_breaks xt_114 = true := by decide +kernel
set_option maxRecDepth 100000 in
theorem xt_ok_115 : xe_ok cX12_alike xt_115 = true := by decide +kernel
set_option maxRecDepth 100000 in
theorem xt_ok_116 : xe_ok cX12_fit xt_116 = true := by decide +kernel
set_option maxRecDepth 100000 in
theorem xt_ok_117 : xe_ok cX12_ways xt_117 = true := by decide +kernel
set_option maxRecDepth 100000 in
theorem xt_ok_118 : xe_ok cX12_first xt_118 = true := by decide +kernel
set_option maxRecDepth 100000 in
theorem xt_ok_119 : xe_ok cX12_can xt_119 = true := by decide +kernel
set_option maxRecDepth 100000 in
theorem xt_ok_120 : xe_ok cX12_laws xt_120 = true := by decide +kernel
set_option maxRecDepth 100000 in
theorem xt_ok_121 : xe_ok cX12_next xt_121 = true := by decide +kernel
set_option maxRecDepth 100000 in
theorem xt_ok_122 : xe_ok cX12_he xt_122 = true := by decide +kernel
set_option maxRecDepth 100000 in
theorem xt_ok_123 : xe_ok cX12_keeps xt_123 = true := by decide +kernel
set_option maxRecDepth 100000 in
theorem xt_ok_124 : xe_ok cX12_still xt_124 = true := by decide +kernel
set_option maxRecDepth 100000 in
theorem xt_ok_125 : xe_ok cX12_game xt_125 = true := by decide +kernel
set_option maxRecDepth 100000 in
theorem xt_ok_126 : xe_ok cX12_picks xt_126 = true := by decide +kernel
set_option maxRecDepth 100000 in
theorem xt_ok_127 : xe_ok cX12_odds xt_127 = true := by decide +kernel
set_option maxRecDepth 100000 in
theorem xt_ok_128 : xe_ok cX12_mid xt_128 = true := by decide +kernel
set_option maxRecDepth 100000 in
theorem xt_ok_129 : xe_ok cX12_lots xt_129 = true := by decide +kernel
set_option maxRecDepth 100000 in
theorem xt_ok_130 : xe_ok cX12_asked xt_130 = true := by decide +kernel
set_option maxRecDepth 100000 in
theorem xt_ok_131 : xe_ok cX12_upper xt_131 = true := by decide +kernel
set_option maxRecDepth 100000 in
theorem xt_ok_132 : xe_ok cX12_lower xt_132 = true := by decide +kernel
set_option maxRecDepth 100000 in
theorem xt_ok_133 : xe_ok cX12_kindsOf xt_133 = true := by decide +kernel
set_option maxRecDepth 100000 in
theorem xt_ok_134 : xe_ok cX12_thereOf xt_134 = true := by decide +kernel
set_option maxRecDepth 100000 in
theorem xt_ok_135 : xe_ok cX12_countOf xt_135 = true := by decide +kernel
set_option maxRecDepth 100000 in
theorem xt_ok_136 : xe_ok cX12_count xt_136 = true := by decide +kernel
set_option maxRecDepth 100000 in
theorem xt_ok_137 : xe_ok cX12_finding xt_137 = true := by decide +kernel
set_option maxRecDepth 100000 in
theorem xt_ok_138 : xe_ok cX12_findings xt_138 = true := by decide +kernel
set_option maxRecDepth 100000 in
theorem xt_ok_139 : xe_ok cX12_add xt_139 = true := by decide +kernel
set_option maxRecDepth 100000 in
theorem xt_ok_140 : xe_ok cX12_digest xt_140 = true := by decide +kernel
def xt_L_0 : xI := [[(0, .new 7, 3), (3, .dup, 1), (4, .invokespecial 9, 3), (7, .astore_n 1, 1), (8, .new 10, 3), (11, .dup, 1), (12, .invokespecial 12, 3), (15, .astore_n 2, 1)], [(16, .iconst 0, 1), (17, .istore_n 3, 1), (18, .iload_n 3, 1), (19, .aload_n 0, 1), (20, .arraylength, 1), (21, .bipush 6, 2), (23, .isub, 1), (24, .if_icmp .gt 1531, 3), (27, .aload_n 0, 1), (28, .iload_n 3, 1), (29, .iaload, 1), (30, .bipush 63, 2)], [(32, .iand, 1), (33, .tableswitch 1516 0 43 #[191, 224, 267, 300, 323, 386, 409, 442, 485, 508, 531, 564, 597, 620, 653, 686, 719, 732, 755, 778, 801, 844, 877, 910, 943, 976, 1019, 1062, 1095, 1128, 1171, 1204, 1237, 1260, 1283, 1326, 1369, 1402, 1415, 1429, 1443, 1466, 1479, 1502], 191)], [], [], []]
set_option maxRecDepth 100000 in
theorem xt_ok_L_0 : xe_ok cL_law xt_L_0 = true := by decide +kernel
def xt_L_1 : xI := [[], [], [], [], [], []]
set_option maxRecDepth 100000 in
theorem xt_ok_L_1 : xe_ok cL_law xt_L_1 = true := by decide +kernel
def xt_L_2 : xI := [[], [], [(224, .aload_n 1, 1), (225, .aload_n 0, 1), (226, .iload_n 3, 1), (227, .iconst 1, 1), (228, .iadd, 1), (229, .iaload, 1), (230, .aload_n 0, 1), (231, .iload_n 3, 1), (232, .iconst 2, 1), (233, .iadd, 1), (234, .iaload, 1), (235, .invokevirtual 13, 3), (238, .aload_n 2, 1), (239, .aload_n 0, 1)], [(240, .iload_n 3, 1), (241, .iconst 1, 1), (242, .iadd, 1), (243, .iaload, 1), (244, .aload_n 0, 1), (245, .iload_n 3, 1), (246, .iconst 2, 1), (247, .iadd, 1), (248, .iaload, 1), (249, .invokevirtual 17, 3), (252, .if_icmp .eq 1297, 3), (255, .iconst 0, 1)], [(256, .ireturn, 1), (257, .aload_n 1, 1), (258, .aload_n 0, 1), (259, .iload_n 3, 1), (260, .iconst 1, 1), (261, .iadd, 1), (262, .iaload, 1), (263, .aload_n 0, 1), (264, .iload_n 3, 1), (265, .iconst 2, 1), (266, .iadd, 1), (267, .iaload, 1), (268, .aload_n 0, 1), (269, .iload_n 3, 1), (270, .iconst 3, 1), (271, .iadd, 1)], [(272, .iaload, 1), (273, .invokevirtual 18, 3), (276, .aload_n 2, 1), (277, .aload_n 0, 1), (278, .iload_n 3, 1), (279, .iconst 1, 1), (280, .iadd, 1), (281, .iaload, 1), (282, .aload_n 0, 1), (283, .iload_n 3, 1), (284, .iconst 2, 1), (285, .iadd, 1), (286, .iaload, 1), (287, .aload_n 0, 1)]]
set_option maxRecDepth 100000 in
theorem xt_ok_L_2 : xe_ok cL_law xt_L_2 = true := by decide +kernel
def xt_L_3 : xI := [[(288, .iload_n 3, 1), (289, .iconst 3, 1), (290, .iadd, 1), (291, .iaload, 1), (292, .invokevirtual 22, 3), (295, .if_icmp .eq 1254, 3), (298, .iconst 0, 1), (299, .ireturn, 1), (300, .aload_n 1, 1), (301, .aload_n 0, 1), (302, .iload_n 3, 1), (303, .iconst 1, 1)], [(304, .iadd, 1), (305, .iaload, 1), (306, .aload_n 0, 1), (307, .iload_n 3, 1), (308, .iconst 2, 1), (309, .iadd, 1), (310, .iaload, 1), (311, .invokevirtual 23, 3), (314, .aload_n 2, 1), (315, .aload_n 0, 1), (316, .iload_n 3, 1), (317, .iconst 1, 1), (318, .iadd, 1), (319, .iaload, 1)], [(320, .aload_n 0, 1), (321, .iload_n 3, 1), (322, .iconst 2, 1), (323, .iadd, 1), (324, .iaload, 1), (325, .invokevirtual 26, 3), (328, .if_icmp .eq 1221, 3), (331, .iconst 0, 1), (332, .ireturn, 1), (333, .aload_n 1, 1), (334, .aload_n 0, 1), (335, .iload_n 3, 1)], [(336, .iconst 1, 1), (337, .iadd, 1), (338, .iaload, 1), (339, .invokevirtual 27, 3), (342, .aload_n 2, 1), (343, .aload_n 0, 1), (344, .iload_n 3, 1), (345, .iconst 1, 1), (346, .iadd, 1), (347, .iaload, 1), (348, .invokevirtual 31, 3), (351, .if_icmp .eq 1198, 3)], [(354, .iconst 0, 1), (355, .ireturn, 1), (356, .aload_n 1, 1), (357, .aload_n 0, 1), (358, .iload_n 3, 1), (359, .iconst 1, 1), (360, .iadd, 1), (361, .iaload, 1), (362, .aload_n 0, 1), (363, .iload_n 3, 1), (364, .iconst 2, 1), (365, .iadd, 1), (366, .iaload, 1), (367, .aload_n 0, 1)], [(368, .iload_n 3, 1), (369, .iconst 3, 1), (370, .iadd, 1), (371, .iaload, 1), (372, .aload_n 0, 1), (373, .iload_n 3, 1), (374, .iconst 4, 1), (375, .iadd, 1), (376, .iaload, 1), (377, .aload_n 0, 1), (378, .iload_n 3, 1), (379, .iconst 5, 1), (380, .iadd, 1), (381, .iaload, 1), (382, .invokevirtual 32, 3)]]
set_option maxRecDepth 100000 in
theorem xt_ok_L_3 : xe_ok cL_law xt_L_3 = true := by decide +kernel
def xt_L_4 : xI := [[(385, .aload_n 2, 1), (386, .aload_n 0, 1), (387, .iload_n 3, 1), (388, .iconst 1, 1), (389, .iadd, 1), (390, .iaload, 1), (391, .aload_n 0, 1), (392, .iload_n 3, 1), (393, .iconst 2, 1), (394, .iadd, 1), (395, .iaload, 1), (396, .aload_n 0, 1), (397, .iload_n 3, 1), (398, .iconst 3, 1), (399, .iadd, 1)], [(400, .iaload, 1), (401, .aload_n 0, 1), (402, .iload_n 3, 1), (403, .iconst 4, 1), (404, .iadd, 1), (405, .iaload, 1), (406, .aload_n 0, 1), (407, .iload_n 3, 1), (408, .iconst 5, 1), (409, .iadd, 1), (410, .iaload, 1), (411, .invokevirtual 36, 3), (414, .if_icmp .eq 1135, 3)], [(417, .iconst 0, 1), (418, .ireturn, 1), (419, .aload_n 1, 1), (420, .aload_n 0, 1), (421, .iload_n 3, 1), (422, .iconst 1, 1), (423, .iadd, 1), (424, .iaload, 1), (425, .invokevirtual 37, 3), (428, .aload_n 2, 1), (429, .aload_n 0, 1), (430, .iload_n 3, 1), (431, .iconst 1, 1)], [(432, .iadd, 1), (433, .iaload, 1), (434, .invokevirtual 40, 3), (437, .if_icmp .eq 1112, 3), (440, .iconst 0, 1), (441, .ireturn, 1), (442, .aload_n 1, 1), (443, .aload_n 0, 1), (444, .iload_n 3, 1), (445, .iconst 1, 1), (446, .iadd, 1), (447, .iaload, 1)], [(448, .aload_n 0, 1), (449, .iload_n 3, 1), (450, .iconst 2, 1), (451, .iadd, 1), (452, .iaload, 1), (453, .invokevirtual 41, 3), (456, .aload_n 2, 1), (457, .aload_n 0, 1), (458, .iload_n 3, 1), (459, .iconst 1, 1), (460, .iadd, 1), (461, .iaload, 1), (462, .aload_n 0, 1), (463, .iload_n 3, 1)], [(464, .iconst 2, 1), (465, .iadd, 1), (466, .iaload, 1), (467, .invokevirtual 44, 3), (470, .if_icmp .eq 1079, 3), (473, .iconst 0, 1), (474, .ireturn, 1), (475, .aload_n 1, 1), (476, .aload_n 0, 1), (477, .iload_n 3, 1), (478, .iconst 1, 1), (479, .iadd, 1)]]
set_option maxRecDepth 100000 in
theorem xt_ok_L_4 : xe_ok cL_law xt_L_4 = true := by decide +kernel
def xt_L_5 : xI := [[(480, .iaload, 1), (481, .aload_n 0, 1), (482, .iload_n 3, 1), (483, .iconst 2, 1), (484, .iadd, 1), (485, .iaload, 1), (486, .aload_n 0, 1), (487, .iload_n 3, 1), (488, .iconst 3, 1), (489, .iadd, 1), (490, .iaload, 1), (491, .invokevirtual 45, 3), (494, .aload_n 2, 1), (495, .aload_n 0, 1)], [(496, .iload_n 3, 1), (497, .iconst 1, 1), (498, .iadd, 1), (499, .iaload, 1), (500, .aload_n 0, 1), (501, .iload_n 3, 1), (502, .iconst 2, 1), (503, .iadd, 1), (504, .iaload, 1), (505, .aload_n 0, 1), (506, .iload_n 3, 1), (507, .iconst 3, 1), (508, .iadd, 1), (509, .iaload, 1), (510, .invokevirtual 48, 3)], [(513, .if_icmp .eq 1036, 3), (516, .iconst 0, 1), (517, .ireturn, 1), (518, .aload_n 1, 1), (519, .aload_n 0, 1), (520, .iload_n 3, 1), (521, .iconst 1, 1), (522, .iadd, 1), (523, .iaload, 1), (524, .invokevirtual 49, 3), (527, .aload_n 2, 1)], [(528, .aload_n 0, 1), (529, .iload_n 3, 1), (530, .iconst 1, 1), (531, .iadd, 1), (532, .iaload, 1), (533, .invokevirtual 52, 3), (536, .if_icmp .eq 1013, 3), (539, .iconst 0, 1), (540, .ireturn, 1), (541, .aload_n 1, 1), (542, .aload_n 0, 1), (543, .iload_n 3, 1)], [(544, .iconst 1, 1), (545, .iadd, 1), (546, .iaload, 1), (547, .invokevirtual 53, 3), (550, .aload_n 2, 1), (551, .aload_n 0, 1), (552, .iload_n 3, 1), (553, .iconst 1, 1), (554, .iadd, 1), (555, .iaload, 1), (556, .invokevirtual 56, 3), (559, .if_icmp .eq 990, 3)], [(562, .iconst 0, 1), (563, .ireturn, 1), (564, .aload_n 1, 1), (565, .aload_n 0, 1), (566, .iload_n 3, 1), (567, .iconst 1, 1), (568, .iadd, 1), (569, .iaload, 1), (570, .aload_n 0, 1), (571, .iload_n 3, 1), (572, .iconst 2, 1), (573, .iadd, 1), (574, .iaload, 1), (575, .invokevirtual 57, 3)]]
set_option maxRecDepth 100000 in
theorem xt_ok_L_5 : xe_ok cL_law xt_L_5 = true := by decide +kernel
def xt_L_6 : xI := [[(578, .aload_n 2, 1), (579, .aload_n 0, 1), (580, .iload_n 3, 1), (581, .iconst 1, 1), (582, .iadd, 1), (583, .iaload, 1), (584, .aload_n 0, 1), (585, .iload_n 3, 1), (586, .iconst 2, 1), (587, .iadd, 1), (588, .iaload, 1), (589, .invokevirtual 60, 3)], [(592, .if_icmp .eq 957, 3), (595, .iconst 0, 1), (596, .ireturn, 1), (597, .aload_n 1, 1), (598, .aload_n 0, 1), (599, .iload_n 3, 1), (600, .iconst 1, 1), (601, .iadd, 1), (602, .iaload, 1), (603, .aload_n 0, 1), (604, .iload_n 3, 1), (605, .iconst 2, 1), (606, .iadd, 1), (607, .iaload, 1)], [(608, .invokevirtual 61, 3), (611, .aload_n 2, 1), (612, .aload_n 0, 1), (613, .iload_n 3, 1), (614, .iconst 1, 1), (615, .iadd, 1), (616, .iaload, 1), (617, .aload_n 0, 1), (618, .iload_n 3, 1), (619, .iconst 2, 1), (620, .iadd, 1), (621, .iaload, 1), (622, .invokevirtual 64, 3)], [(625, .if_icmp .eq 924, 3), (628, .iconst 0, 1), (629, .ireturn, 1), (630, .aload_n 1, 1), (631, .aload_n 0, 1), (632, .iload_n 3, 1), (633, .iconst 1, 1), (634, .iadd, 1), (635, .iaload, 1), (636, .invokevirtual 65, 3), (639, .aload_n 2, 1)], [(640, .aload_n 0, 1), (641, .iload_n 3, 1), (642, .iconst 1, 1), (643, .iadd, 1), (644, .iaload, 1), (645, .invokevirtual 68, 3), (648, .if_icmp .eq 901, 3), (651, .iconst 0, 1), (652, .ireturn, 1), (653, .aload_n 1, 1), (654, .aload_n 0, 1), (655, .iload_n 3, 1)], [(656, .iconst 1, 1), (657, .iadd, 1), (658, .iaload, 1), (659, .aload_n 0, 1), (660, .iload_n 3, 1), (661, .iconst 2, 1), (662, .iadd, 1), (663, .iaload, 1), (664, .invokevirtual 69, 3), (667, .aload_n 2, 1), (668, .aload_n 0, 1), (669, .iload_n 3, 1), (670, .iconst 1, 1), (671, .iadd, 1)]]
set_option maxRecDepth 100000 in
theorem xt_ok_L_6 : xe_ok cL_law xt_L_6 = true := by decide +kernel
def xt_L_7 : xI := [[(672, .iaload, 1), (673, .aload_n 0, 1), (674, .iload_n 3, 1), (675, .iconst 2, 1), (676, .iadd, 1), (677, .iaload, 1), (678, .invokevirtual 72, 3), (681, .if_icmp .eq 868, 3), (684, .iconst 0, 1), (685, .ireturn, 1), (686, .aload_n 1, 1), (687, .aload_n 0, 1)], [(688, .iload_n 3, 1), (689, .iconst 1, 1), (690, .iadd, 1), (691, .iaload, 1), (692, .aload_n 0, 1), (693, .iload_n 3, 1), (694, .iconst 2, 1), (695, .iadd, 1), (696, .iaload, 1), (697, .invokevirtual 73, 3), (700, .aload_n 2, 1), (701, .aload_n 0, 1), (702, .iload_n 3, 1), (703, .iconst 1, 1)], [(704, .iadd, 1), (705, .iaload, 1), (706, .aload_n 0, 1), (707, .iload_n 3, 1), (708, .iconst 2, 1), (709, .iadd, 1), (710, .iaload, 1), (711, .invokevirtual 76, 3), (714, .if_icmp .eq 835, 3), (717, .iconst 0, 1), (718, .ireturn, 1), (719, .aload_n 1, 1)], [(720, .aload_n 0, 1), (721, .iload_n 3, 1), (722, .iconst 1, 1), (723, .iadd, 1), (724, .iaload, 1), (725, .aload_n 0, 1), (726, .iload_n 3, 1), (727, .iconst 2, 1), (728, .iadd, 1), (729, .iaload, 1), (730, .invokevirtual 77, 3), (733, .aload_n 2, 1), (734, .aload_n 0, 1), (735, .iload_n 3, 1)], [(736, .iconst 1, 1), (737, .iadd, 1), (738, .iaload, 1), (739, .aload_n 0, 1), (740, .iload_n 3, 1), (741, .iconst 2, 1), (742, .iadd, 1), (743, .iaload, 1), (744, .invokevirtual 80, 3), (747, .if_icmp .eq 802, 3), (750, .iconst 0, 1), (751, .ireturn, 1)], [(752, .aload_n 1, 1), (753, .invokevirtual 81, 3), (756, .aload_n 2, 1), (757, .invokevirtual 85, 3), (760, .if_icmp .eq 789, 3), (763, .iconst 0, 1), (764, .ireturn, 1), (765, .aload_n 1, 1), (766, .aload_n 0, 1), (767, .iload_n 3, 1)]]
set_option maxRecDepth 100000 in
theorem xt_ok_L_7 : xe_ok cL_law xt_L_7 = true := by decide +kernel
def xt_L_8 : xI := [[(768, .iconst 1, 1), (769, .iadd, 1), (770, .iaload, 1), (771, .invokevirtual 86, 3), (774, .aload_n 2, 1), (775, .aload_n 0, 1), (776, .iload_n 3, 1), (777, .iconst 1, 1), (778, .iadd, 1), (779, .iaload, 1), (780, .invokevirtual 89, 3), (783, .if_icmp .eq 766, 3)], [(786, .iconst 0, 1), (787, .ireturn, 1), (788, .aload_n 1, 1), (789, .aload_n 0, 1), (790, .iload_n 3, 1), (791, .iconst 1, 1), (792, .iadd, 1), (793, .iaload, 1), (794, .invokevirtual 90, 3), (797, .aload_n 2, 1), (798, .aload_n 0, 1), (799, .iload_n 3, 1)], [(800, .iconst 1, 1), (801, .iadd, 1), (802, .iaload, 1), (803, .invokevirtual 93, 3), (806, .if_icmp .eq 743, 3), (809, .iconst 0, 1), (810, .ireturn, 1), (811, .aload_n 1, 1), (812, .aload_n 0, 1), (813, .iload_n 3, 1), (814, .iconst 1, 1), (815, .iadd, 1)], [(816, .iaload, 1), (817, .invokevirtual 94, 3), (820, .aload_n 2, 1), (821, .aload_n 0, 1), (822, .iload_n 3, 1), (823, .iconst 1, 1), (824, .iadd, 1), (825, .iaload, 1), (826, .invokevirtual 97, 3), (829, .if_icmp .eq 720, 3)], [(832, .iconst 0, 1), (833, .ireturn, 1), (834, .aload_n 1, 1), (835, .aload_n 0, 1), (836, .iload_n 3, 1), (837, .iconst 1, 1), (838, .iadd, 1), (839, .iaload, 1), (840, .aload_n 0, 1), (841, .iload_n 3, 1), (842, .iconst 2, 1), (843, .iadd, 1), (844, .iaload, 1), (845, .aload_n 0, 1), (846, .iload_n 3, 1), (847, .iconst 3, 1)], [(848, .iadd, 1), (849, .iaload, 1), (850, .invokevirtual 98, 3), (853, .aload_n 2, 1), (854, .aload_n 0, 1), (855, .iload_n 3, 1), (856, .iconst 1, 1), (857, .iadd, 1), (858, .iaload, 1), (859, .aload_n 0, 1), (860, .iload_n 3, 1), (861, .iconst 2, 1), (862, .iadd, 1), (863, .iaload, 1)]]
set_option maxRecDepth 100000 in
theorem xt_ok_L_8 : xe_ok cL_law xt_L_8 = true := by decide +kernel
def xt_L_9 : xI := [[(864, .aload_n 0, 1), (865, .iload_n 3, 1), (866, .iconst 3, 1), (867, .iadd, 1), (868, .iaload, 1), (869, .invokevirtual 101, 3), (872, .if_icmp .eq 677, 3), (875, .iconst 0, 1), (876, .ireturn, 1), (877, .aload_n 1, 1), (878, .aload_n 0, 1), (879, .iload_n 3, 1)], [(880, .iconst 1, 1), (881, .iadd, 1), (882, .iaload, 1), (883, .aload_n 0, 1), (884, .iload_n 3, 1), (885, .iconst 2, 1), (886, .iadd, 1), (887, .iaload, 1), (888, .invokevirtual 102, 3), (891, .aload_n 2, 1), (892, .aload_n 0, 1), (893, .iload_n 3, 1), (894, .iconst 1, 1), (895, .iadd, 1)], [(896, .iaload, 1), (897, .aload_n 0, 1), (898, .iload_n 3, 1), (899, .iconst 2, 1), (900, .iadd, 1), (901, .iaload, 1), (902, .invokevirtual 105, 3), (905, .if_icmp .eq 644, 3), (908, .iconst 0, 1), (909, .ireturn, 1), (910, .aload_n 1, 1), (911, .aload_n 0, 1)], [(912, .iload_n 3, 1), (913, .iconst 1, 1), (914, .iadd, 1), (915, .iaload, 1), (916, .aload_n 0, 1), (917, .iload_n 3, 1), (918, .iconst 2, 1), (919, .iadd, 1), (920, .iaload, 1), (921, .invokevirtual 106, 3), (924, .aload_n 2, 1), (925, .aload_n 0, 1), (926, .iload_n 3, 1), (927, .iconst 1, 1)], [(928, .iadd, 1), (929, .iaload, 1), (930, .aload_n 0, 1), (931, .iload_n 3, 1), (932, .iconst 2, 1), (933, .iadd, 1), (934, .iaload, 1), (935, .invokevirtual 109, 3), (938, .if_icmp .eq 611, 3), (941, .iconst 0, 1), (942, .ireturn, 1), (943, .aload_n 1, 1)], [(944, .aload_n 0, 1), (945, .iload_n 3, 1), (946, .iconst 1, 1), (947, .iadd, 1), (948, .iaload, 1), (949, .aload_n 0, 1), (950, .iload_n 3, 1), (951, .iconst 2, 1), (952, .iadd, 1), (953, .iaload, 1), (954, .invokevirtual 110, 3), (957, .aload_n 2, 1), (958, .aload_n 0, 1), (959, .iload_n 3, 1)]]
set_option maxRecDepth 100000 in
theorem xt_ok_L_9 : xe_ok cL_law xt_L_9 = true := by decide +kernel
def xt_L_10 : xI := [[(960, .iconst 1, 1), (961, .iadd, 1), (962, .iaload, 1), (963, .aload_n 0, 1), (964, .iload_n 3, 1), (965, .iconst 2, 1), (966, .iadd, 1), (967, .iaload, 1), (968, .invokevirtual 113, 3), (971, .if_icmp .eq 578, 3), (974, .iconst 0, 1), (975, .ireturn, 1)], [(976, .aload_n 1, 1), (977, .aload_n 0, 1), (978, .iload_n 3, 1), (979, .iconst 1, 1), (980, .iadd, 1), (981, .iaload, 1), (982, .aload_n 0, 1), (983, .iload_n 3, 1), (984, .iconst 2, 1), (985, .iadd, 1), (986, .iaload, 1), (987, .invokevirtual 114, 3), (990, .aload_n 2, 1), (991, .aload_n 0, 1)], [(992, .iload_n 3, 1), (993, .iconst 1, 1), (994, .iadd, 1), (995, .iaload, 1), (996, .aload_n 0, 1), (997, .iload_n 3, 1), (998, .iconst 2, 1), (999, .iadd, 1), (1000, .iaload, 1), (1001, .invokevirtual 117, 3), (1004, .if_icmp .eq 545, 3), (1007, .iconst 0, 1)], [(1008, .ireturn, 1), (1009, .aload_n 1, 1), (1010, .aload_n 0, 1), (1011, .iload_n 3, 1), (1012, .iconst 1, 1), (1013, .iadd, 1), (1014, .iaload, 1), (1015, .aload_n 0, 1), (1016, .iload_n 3, 1), (1017, .iconst 2, 1), (1018, .iadd, 1), (1019, .iaload, 1), (1020, .aload_n 0, 1), (1021, .iload_n 3, 1), (1022, .iconst 3, 1), (1023, .iadd, 1)], [(1024, .iaload, 1), (1025, .invokevirtual 118, 3), (1028, .aload_n 2, 1), (1029, .aload_n 0, 1), (1030, .iload_n 3, 1), (1031, .iconst 1, 1), (1032, .iadd, 1), (1033, .iaload, 1), (1034, .aload_n 0, 1), (1035, .iload_n 3, 1), (1036, .iconst 2, 1), (1037, .iadd, 1), (1038, .iaload, 1), (1039, .aload_n 0, 1)], [(1040, .iload_n 3, 1), (1041, .iconst 3, 1), (1042, .iadd, 1), (1043, .iaload, 1), (1044, .invokevirtual 121, 3), (1047, .if_icmp .eq 502, 3), (1050, .iconst 0, 1), (1051, .ireturn, 1), (1052, .aload_n 1, 1), (1053, .aload_n 0, 1), (1054, .iload_n 3, 1), (1055, .iconst 1, 1)]]
set_option maxRecDepth 100000 in
theorem xt_ok_L_10 : xe_ok cL_law xt_L_10 = true := by decide +kernel
def xt_L_11 : xI := [[(1056, .iadd, 1), (1057, .iaload, 1), (1058, .aload_n 0, 1), (1059, .iload_n 3, 1), (1060, .iconst 2, 1), (1061, .iadd, 1), (1062, .iaload, 1), (1063, .aload_n 0, 1), (1064, .iload_n 3, 1), (1065, .iconst 3, 1), (1066, .iadd, 1), (1067, .iaload, 1), (1068, .invokevirtual 122, 3), (1071, .aload_n 2, 1)], [(1072, .aload_n 0, 1), (1073, .iload_n 3, 1), (1074, .iconst 1, 1), (1075, .iadd, 1), (1076, .iaload, 1), (1077, .aload_n 0, 1), (1078, .iload_n 3, 1), (1079, .iconst 2, 1), (1080, .iadd, 1), (1081, .iaload, 1), (1082, .aload_n 0, 1), (1083, .iload_n 3, 1), (1084, .iconst 3, 1), (1085, .iadd, 1), (1086, .iaload, 1), (1087, .invokevirtual 125, 3)], [(1090, .if_icmp .eq 459, 3), (1093, .iconst 0, 1), (1094, .ireturn, 1), (1095, .aload_n 1, 1), (1096, .aload_n 0, 1), (1097, .iload_n 3, 1), (1098, .iconst 1, 1), (1099, .iadd, 1), (1100, .iaload, 1), (1101, .aload_n 0, 1), (1102, .iload_n 3, 1), (1103, .iconst 2, 1)], [(1104, .iadd, 1), (1105, .iaload, 1), (1106, .invokevirtual 126, 3), (1109, .aload_n 2, 1), (1110, .aload_n 0, 1), (1111, .iload_n 3, 1), (1112, .iconst 1, 1), (1113, .iadd, 1), (1114, .iaload, 1), (1115, .aload_n 0, 1), (1116, .iload_n 3, 1), (1117, .iconst 2, 1), (1118, .iadd, 1), (1119, .iaload, 1)], [(1120, .invokevirtual 129, 3), (1123, .if_icmp .eq 426, 3), (1126, .iconst 0, 1), (1127, .ireturn, 1), (1128, .aload_n 1, 1), (1129, .aload_n 0, 1), (1130, .iload_n 3, 1), (1131, .iconst 1, 1), (1132, .iadd, 1), (1133, .iaload, 1), (1134, .aload_n 0, 1), (1135, .iload_n 3, 1)], [(1136, .iconst 2, 1), (1137, .iadd, 1), (1138, .iaload, 1), (1139, .invokevirtual 130, 3), (1142, .aload_n 2, 1), (1143, .aload_n 0, 1), (1144, .iload_n 3, 1), (1145, .iconst 1, 1), (1146, .iadd, 1), (1147, .iaload, 1), (1148, .aload_n 0, 1), (1149, .iload_n 3, 1), (1150, .iconst 2, 1), (1151, .iadd, 1)]]
set_option maxRecDepth 100000 in
theorem xt_ok_L_11 : xe_ok cL_law xt_L_11 = true := by decide +kernel
def xt_L_12 : xI := [[(1152, .iaload, 1), (1153, .invokevirtual 133, 3), (1156, .if_icmp .eq 393, 3), (1159, .iconst 0, 1), (1160, .ireturn, 1), (1161, .aload_n 1, 1), (1162, .aload_n 0, 1), (1163, .iload_n 3, 1), (1164, .iconst 1, 1), (1165, .iadd, 1), (1166, .iaload, 1), (1167, .aload_n 0, 1)], [(1168, .iload_n 3, 1), (1169, .iconst 2, 1), (1170, .iadd, 1), (1171, .iaload, 1), (1172, .aload_n 0, 1), (1173, .iload_n 3, 1), (1174, .iconst 3, 1), (1175, .iadd, 1), (1176, .iaload, 1), (1177, .invokevirtual 134, 3), (1180, .aload_n 2, 1), (1181, .aload_n 0, 1), (1182, .iload_n 3, 1), (1183, .iconst 1, 1)], [(1184, .iadd, 1), (1185, .iaload, 1), (1186, .aload_n 0, 1), (1187, .iload_n 3, 1), (1188, .iconst 2, 1), (1189, .iadd, 1), (1190, .iaload, 1), (1191, .aload_n 0, 1), (1192, .iload_n 3, 1), (1193, .iconst 3, 1), (1194, .iadd, 1), (1195, .iaload, 1), (1196, .invokevirtual 137, 3), (1199, .if_icmp .eq 350, 3)], [(1202, .iconst 0, 1), (1203, .ireturn, 1), (1204, .aload_n 1, 1), (1205, .aload_n 0, 1), (1206, .iload_n 3, 1), (1207, .iconst 1, 1), (1208, .iadd, 1), (1209, .iaload, 1), (1210, .aload_n 0, 1), (1211, .iload_n 3, 1), (1212, .iconst 2, 1), (1213, .iadd, 1), (1214, .iaload, 1), (1215, .invokevirtual 138, 3)], [(1218, .aload_n 2, 1), (1219, .aload_n 0, 1), (1220, .iload_n 3, 1), (1221, .iconst 1, 1), (1222, .iadd, 1), (1223, .iaload, 1), (1224, .aload_n 0, 1), (1225, .iload_n 3, 1), (1226, .iconst 2, 1), (1227, .iadd, 1), (1228, .iaload, 1), (1229, .invokevirtual 141, 3)], [(1232, .if_icmp .eq 317, 3), (1235, .iconst 0, 1), (1236, .ireturn, 1), (1237, .aload_n 1, 1), (1238, .aload_n 0, 1), (1239, .iload_n 3, 1), (1240, .iconst 1, 1), (1241, .iadd, 1), (1242, .iaload, 1), (1243, .aload_n 0, 1), (1244, .iload_n 3, 1), (1245, .iconst 2, 1), (1246, .iadd, 1), (1247, .iaload, 1)]]
set_option maxRecDepth 100000 in
theorem xt_ok_L_12 : xe_ok cL_law xt_L_12 = true := by decide +kernel
def xt_L_13 : xI := [[(1248, .invokevirtual 142, 3), (1251, .aload_n 2, 1), (1252, .aload_n 0, 1), (1253, .iload_n 3, 1), (1254, .iconst 1, 1), (1255, .iadd, 1), (1256, .iaload, 1), (1257, .aload_n 0, 1), (1258, .iload_n 3, 1), (1259, .iconst 2, 1), (1260, .iadd, 1), (1261, .iaload, 1), (1262, .invokevirtual 145, 3)], [(1265, .if_icmp .eq 284, 3), (1268, .iconst 0, 1), (1269, .ireturn, 1), (1270, .aload_n 1, 1), (1271, .aload_n 0, 1), (1272, .iload_n 3, 1), (1273, .iconst 1, 1), (1274, .iadd, 1), (1275, .iaload, 1), (1276, .invokevirtual 146, 3), (1279, .aload_n 2, 1)], [(1280, .aload_n 0, 1), (1281, .iload_n 3, 1), (1282, .iconst 1, 1), (1283, .iadd, 1), (1284, .iaload, 1), (1285, .invokevirtual 149, 3), (1288, .if_icmp .eq 261, 3), (1291, .iconst 0, 1), (1292, .ireturn, 1), (1293, .aload_n 1, 1), (1294, .aload_n 0, 1), (1295, .iload_n 3, 1)], [(1296, .iconst 1, 1), (1297, .iadd, 1), (1298, .iaload, 1), (1299, .invokevirtual 150, 3), (1302, .aload_n 2, 1), (1303, .aload_n 0, 1), (1304, .iload_n 3, 1), (1305, .iconst 1, 1), (1306, .iadd, 1), (1307, .iaload, 1), (1308, .invokevirtual 153, 3), (1311, .if_icmp .eq 238, 3)], [(1314, .iconst 0, 1), (1315, .ireturn, 1), (1316, .aload_n 1, 1), (1317, .aload_n 0, 1), (1318, .iload_n 3, 1), (1319, .iconst 1, 1), (1320, .iadd, 1), (1321, .iaload, 1), (1322, .aload_n 0, 1), (1323, .iload_n 3, 1), (1324, .iconst 2, 1), (1325, .iadd, 1), (1326, .iaload, 1), (1327, .aload_n 0, 1)], [(1328, .iload_n 3, 1), (1329, .iconst 3, 1), (1330, .iadd, 1), (1331, .iaload, 1), (1332, .invokevirtual 154, 3), (1335, .aload_n 2, 1), (1336, .aload_n 0, 1), (1337, .iload_n 3, 1), (1338, .iconst 1, 1), (1339, .iadd, 1), (1340, .iaload, 1), (1341, .aload_n 0, 1), (1342, .iload_n 3, 1), (1343, .iconst 2, 1)]]
set_option maxRecDepth 100000 in
theorem xt_ok_L_13 : xe_ok cL_law xt_L_13 = true := by decide +kernel
def xt_L_14 : xI := [[(1344, .iadd, 1), (1345, .iaload, 1), (1346, .aload_n 0, 1), (1347, .iload_n 3, 1), (1348, .iconst 3, 1), (1349, .iadd, 1), (1350, .iaload, 1), (1351, .invokevirtual 157, 3), (1354, .if_icmp .eq 195, 3), (1357, .iconst 0, 1), (1358, .ireturn, 1), (1359, .aload_n 1, 1)], [(1360, .aload_n 0, 1), (1361, .iload_n 3, 1), (1362, .iconst 1, 1), (1363, .iadd, 1), (1364, .iaload, 1), (1365, .aload_n 0, 1), (1366, .iload_n 3, 1), (1367, .iconst 2, 1), (1368, .iadd, 1), (1369, .iaload, 1), (1370, .aload_n 0, 1), (1371, .iload_n 3, 1), (1372, .iconst 3, 1), (1373, .iadd, 1), (1374, .iaload, 1), (1375, .invokevirtual 158, 3)], [(1378, .aload_n 2, 1), (1379, .aload_n 0, 1), (1380, .iload_n 3, 1), (1381, .iconst 1, 1), (1382, .iadd, 1), (1383, .iaload, 1), (1384, .aload_n 0, 1), (1385, .iload_n 3, 1), (1386, .iconst 2, 1), (1387, .iadd, 1), (1388, .iaload, 1), (1389, .aload_n 0, 1), (1390, .iload_n 3, 1), (1391, .iconst 3, 1)], [(1392, .iadd, 1), (1393, .iaload, 1), (1394, .invokevirtual 161, 3), (1397, .if_icmp .eq 152, 3), (1400, .iconst 0, 1), (1401, .ireturn, 1), (1402, .aload_n 1, 1), (1403, .aload_n 0, 1), (1404, .iload_n 3, 1), (1405, .iconst 1, 1), (1406, .iadd, 1), (1407, .iaload, 1)], [(1408, .aload_n 0, 1), (1409, .iload_n 3, 1), (1410, .iconst 2, 1), (1411, .iadd, 1), (1412, .iaload, 1), (1413, .invokevirtual 162, 3), (1416, .aload_n 2, 1), (1417, .aload_n 0, 1), (1418, .iload_n 3, 1), (1419, .iconst 1, 1), (1420, .iadd, 1), (1421, .iaload, 1), (1422, .aload_n 0, 1), (1423, .iload_n 3, 1)], [(1424, .iconst 2, 1), (1425, .iadd, 1), (1426, .iaload, 1), (1427, .invokevirtual 165, 3), (1430, .if_icmp .eq 119, 3), (1433, .iconst 0, 1), (1434, .ireturn, 1), (1435, .aload_n 1, 1), (1436, .invokevirtual 166, 3), (1439, .aload_n 2, 1)]]
set_option maxRecDepth 100000 in
theorem xt_ok_L_14 : xe_ok cL_law xt_L_14 = true := by decide +kernel
def xt_L_15 : xI := [[(1440, .invokevirtual 169, 3), (1443, .if_icmp .eq 106, 3), (1446, .iconst 0, 1), (1447, .ireturn, 1), (1448, .aload_n 1, 1), (1449, .invokevirtual 170, 3), (1452, .aload_n 2, 1), (1453, .invokevirtual 174, 3)], [(1456, .lcmp, 1), (1457, .ifCond .eq 92, 3), (1460, .iconst 0, 1), (1461, .ireturn, 1), (1462, .aload_n 1, 1), (1463, .invokevirtual 175, 3), (1466, .aload_n 2, 1), (1467, .invokevirtual 178, 3), (1470, .lcmp, 1), (1471, .ifCond .eq 78, 3)], [(1474, .iconst 0, 1), (1475, .ireturn, 1), (1476, .aload_n 1, 1), (1477, .aload_n 0, 1), (1478, .iload_n 3, 1), (1479, .iconst 1, 1), (1480, .iadd, 1), (1481, .iaload, 1), (1482, .invokevirtual 179, 3), (1485, .aload_n 2, 1), (1486, .aload_n 0, 1), (1487, .iload_n 3, 1)], [(1488, .iconst 1, 1), (1489, .iadd, 1), (1490, .iaload, 1), (1491, .invokevirtual 182, 3), (1494, .if_icmp .eq 55, 3), (1497, .iconst 0, 1), (1498, .ireturn, 1), (1499, .aload_n 1, 1), (1500, .invokevirtual 183, 3), (1503, .aload_n 2, 1)], [(1504, .invokevirtual 186, 3), (1507, .if_icmp .eq 42, 3), (1510, .iconst 0, 1), (1511, .ireturn, 1), (1512, .aload_n 1, 1), (1513, .aload_n 0, 1), (1514, .iload_n 3, 1), (1515, .iconst 1, 1), (1516, .iadd, 1), (1517, .iaload, 1), (1518, .invokevirtual 187, 3)], [(1521, .aload_n 2, 1), (1522, .aload_n 0, 1), (1523, .iload_n 3, 1), (1524, .iconst 1, 1), (1525, .iadd, 1), (1526, .iaload, 1), (1527, .invokevirtual 190, 3), (1530, .if_icmp .eq 19, 3), (1533, .iconst 0, 1), (1534, .ireturn, 1), (1535, .aload_n 1, 1)]]
set_option maxRecDepth 100000 in
theorem xt_ok_L_15 : xe_ok cL_law xt_L_15 = true := by decide +kernel
def xt_L_16 : xI := [[(1536, .invokevirtual 191, 3), (1539, .aload_n 2, 1), (1540, .invokevirtual 194, 3), (1543, .lcmp, 1), (1544, .ifCond .eq 5, 3), (1547, .iconst 0, 1), (1548, .ireturn, 1), (1549, .iinc 3 6, 3)], [(1552, .goto (-1534), 3), (1555, .iconst 1, 1), (1556, .ireturn, 1)]]
set_option maxRecDepth 100000 in
theorem xt_ok_L_16 : xe_ok cL_law xt_L_16 = true := by decide +kernel
theorem xe_ok_app {cc : ByteArray} {a b : xI} (ha : xe_ok cc a = true) (hb : xe_ok cc b = true) : xe_ok cc (a ++ b) = true := by
  unfold xe_ok at *
  rw [List.all_append, ha, hb]
  rfl
set_option maxRecDepth 100000 in
theorem xt_ok_L : xe_ok cL_law xt_L = true := xe_ok_app xt_ok_L_0 (xe_ok_app xt_ok_L_1 (xe_ok_app xt_ok_L_2 (xe_ok_app xt_ok_L_3 (xe_ok_app xt_ok_L_4 (xe_ok_app xt_ok_L_5 (xe_ok_app xt_ok_L_6 (xe_ok_app xt_ok_L_7 (xe_ok_app xt_ok_L_8 (xe_ok_app xt_ok_L_9 (xe_ok_app xt_ok_L_10 (xe_ok_app xt_ok_L_11 (xe_ok_app xt_ok_L_12 (xe_ok_app xt_ok_L_13 (xe_ok_app xt_ok_L_14 (xe_ok_app xt_ok_L_15 (xt_ok_L_16))))))))))))))))
