set_option maxRecDepth 1000000 in
theorem xr_4_0_0 : xokS (nI 4) (xmi, -1) [(xmi, 2147483647)] [(-1, 0), (0, 1), (1, 2), (2, 3), (3, 4), (4, 5), (5, 6)] [] [(-1, 0)] = true := by decide +kernel
set_option maxRecDepth 1000000 in
theorem xr_4_1_0 : xokS (nI 4) (0, 0) [(xmi, 2147483647)] [(-1, 0), (0, 1), (1, 2), (2, 3), (3, 4), (4, 5), (5, 6)] [] [(-1, 0)] = true := by decide +kernel
set_option maxRecDepth 1000000 in
theorem xr_4_2_0 : xokS (nI 4) (1, 1) [(xmi, 2147483647)] [(-1, 0), (0, 1), (1, 2), (2, 3), (3, 4), (4, 5), (5, 6)] [] [(-1, 0)] = true := by decide +kernel
set_option maxRecDepth 1000000 in
theorem xr_4_3_0 : xokS (nI 4) (2, 2) [(xmi, 2147483647)] [(-1, 0), (0, 1), (1, 2), (2, 3), (3, 4), (4, 5), (5, 6)] [] [(-1, 0)] = true := by decide +kernel
set_option maxRecDepth 1000000 in
theorem xr_4_4_0 : xokS (nI 4) (3, 3) [(xmi, 2147483647)] [(-1, 0), (0, 1), (1, 2), (2, 3), (3, 4), (4, 5), (5, 6)] [] [(-1, 0)] = true := by decide +kernel
set_option maxRecDepth 1000000 in
theorem xr_4_5_0 : xokS (nI 4) (4, 4) [(xmi, 2147483647)] [(-1, 0), (0, 1), (1, 2), (2, 3), (3, 4), (4, 5), (5, 6)] [] [(-1, 0)] = true := by decide +kernel
set_option maxRecDepth 1000000 in
theorem xr_4_6_0 : xokS (nI 4) (5, 5) [(xmi, 2147483647)] [(-1, 0), (0, 1), (1, 2), (2, 3), (3, 4), (4, 5), (5, 6)] [] [(-1, 0)] = true := by decide +kernel
set_option maxRecDepth 1000000 in
theorem xr_4_7_0 : xokS (nI 4) (6, 2147483647) [(xmi, 2147483647)] [(-1, 0), (0, 1), (1, 2), (2, 3), (3, 4), (4, 5), (5, 6)] [] [(-1, 0)] = true := by decide +kernel
set_option maxRecDepth 1000000 in
theorem xr_23_0_0 : xokS (nI 23) (xmi, -1) [(xmi, -1), (0, 0), (1, 1), (2, 2), (3, 3), (4, 4), (5, 5), (6, 2147483647)] [] [] [] = true := by decide +kernel
set_option maxRecDepth 1000000 in
theorem xr_23_1_0 : xokS (nI 23) (0, 0) [(xmi, -1), (0, 0), (1, 1), (2, 2), (3, 3), (4, 4), (5, 5)] [] [] [] = true := by decide +kernel
set_option maxRecDepth 1000000 in
theorem xr_23_1_1 : xokS (nI 23) (0, 0) [(6, 2147483647)] [] [] [] = true := by decide +kernel
set_option maxRecDepth 1000000 in
theorem xr_23_2_0 : xokS (nI 23) (1, 1) [(xmi, -1), (0, 0), (1, 1), (2, 2), (3, 3), (4, 4), (5, 5)] [] [] [] = true := by decide +kernel
set_option maxRecDepth 1000000 in
theorem xr_23_2_1 : xokS (nI 23) (1, 1) [(6, 2147483647)] [] [] [] = true := by decide +kernel
set_option maxRecDepth 1000000 in
theorem xr_23_3_0 : xokS (nI 23) (2, 2) [(xmi, -1), (0, 0), (1, 1), (2, 2), (3, 3), (4, 4), (5, 5)] [] [] [] = true := by decide +kernel
set_option maxRecDepth 1000000 in
theorem xr_23_3_1 : xokS (nI 23) (2, 2) [(6, 2147483647)] [] [] [] = true := by decide +kernel
set_option maxRecDepth 1000000 in
theorem xr_23_4_0 : xokS (nI 23) (3, 3) [(xmi, -1), (0, 0), (1, 1), (2, 2), (3, 3), (4, 4), (5, 5)] [] [] [] = true := by decide +kernel
set_option maxRecDepth 1000000 in
theorem xr_23_4_1 : xokS (nI 23) (3, 3) [(6, 2147483647)] [] [] [] = true := by decide +kernel
set_option maxRecDepth 1000000 in
theorem xr_23_5_0 : xokS (nI 23) (4, 4) [(xmi, -1), (0, 0), (1, 1), (2, 2), (3, 3), (4, 4), (5, 5)] [] [] [] = true := by decide +kernel
set_option maxRecDepth 1000000 in
theorem xr_23_5_1 : xokS (nI 23) (4, 4) [(6, 2147483647)] [] [] [] = true := by decide +kernel
set_option maxRecDepth 1000000 in
theorem xr_23_6_0 : xokS (nI 23) (5, 5) [(xmi, -1), (0, 0), (1, 1), (2, 2), (3, 3), (4, 4), (5, 5)] [] [] [] = true := by decide +kernel
set_option maxRecDepth 1000000 in
theorem xr_23_6_1 : xokS (nI 23) (5, 5) [(6, 2147483647)] [] [] [] = true := by decide +kernel
set_option maxRecDepth 1000000 in
theorem xr_23_7_0 : xokS (nI 23) (6, 2147483647) [(xmi, -1), (0, 0), (1, 1), (2, 2), (3, 3), (4, 4), (5, 5), (6, 2147483647)] [] [] [] = true := by decide +kernel
set_option maxRecDepth 1000000 in
theorem xr_27_0_0 : xokS (nI 27) (xmi, -1) [(xmi, -1), (0, 0), (1, 1), (2, 2), (3, 3), (4, 4), (5, 5), (6, 2147483647)] [] [] [] = true := by decide +kernel
set_option maxRecDepth 1000000 in
theorem xr_27_1_0 : xokS (nI 27) (0, 0) [(xmi, -1), (0, 0), (1, 1), (2, 2), (3, 3), (4, 4), (5, 5)] [] [] [] = true := by decide +kernel
set_option maxRecDepth 1000000 in
theorem xr_27_1_1 : xokS (nI 27) (0, 0) [(6, 2147483647)] [] [] [] = true := by decide +kernel
set_option maxRecDepth 1000000 in
theorem xr_27_2_0 : xokS (nI 27) (1, 1) [(xmi, -1), (0, 0), (1, 1), (2, 2), (3, 3), (4, 4), (5, 5)] [] [] [] = true := by decide +kernel
set_option maxRecDepth 1000000 in
theorem xr_27_2_1 : xokS (nI 27) (1, 1) [(6, 2147483647)] [] [] [] = true := by decide +kernel
set_option maxRecDepth 1000000 in
theorem xr_27_3_0 : xokS (nI 27) (2, 2) [(xmi, -1), (0, 0), (1, 1), (2, 2), (3, 3), (4, 4), (5, 5)] [] [] [] = true := by decide +kernel
set_option maxRecDepth 1000000 in
theorem xr_27_3_1 : xokS (nI 27) (2, 2) [(6, 2147483647)] [] [] [] = true := by decide +kernel
set_option maxRecDepth 1000000 in
theorem xr_27_4_0 : xokS (nI 27) (3, 3) [(xmi, -1), (0, 0), (1, 1), (2, 2), (3, 3), (4, 4), (5, 5)] [] [] [] = true := by decide +kernel
set_option maxRecDepth 1000000 in
theorem xr_27_4_1 : xokS (nI 27) (3, 3) [(6, 2147483647)] [] [] [] = true := by decide +kernel
set_option maxRecDepth 1000000 in
theorem xr_27_5_0 : xokS (nI 27) (4, 4) [(xmi, -1), (0, 0), (1, 1), (2, 2), (3, 3), (4, 4), (5, 5)] [] [] [] = true := by decide +kernel
set_option maxRecDepth 1000000 in
theorem xr_27_5_1 : xokS (nI 27) (4, 4) [(6, 2147483647)] [] [] [] = true := by decide +kernel
set_option maxRecDepth 1000000 in
theorem xr_27_6_0 : xokS (nI 27) (5, 5) [(xmi, -1), (0, 0), (1, 1), (2, 2), (3, 3), (4, 4), (5, 5)] [] [] [] = true := by decide +kernel
set_option maxRecDepth 1000000 in
theorem xr_27_6_1 : xokS (nI 27) (5, 5) [(6, 2147483647)] [] [] [] = true := by decide +kernel
set_option maxRecDepth 1000000 in
theorem xr_27_7_0 : xokS (nI 27) (6, 2147483647) [(xmi, -1), (0, 0), (1, 1), (2, 2), (3, 3), (4, 4), (5, 5), (6, 2147483647)] [] [] [] = true := by decide +kernel
set_option maxRecDepth 1000000 in
theorem xr_28_0_0 : xokS (nI 28) (xmi, -1) [(xmi, -1), (0, 0), (1, 1), (2, 2), (3, 3), (4, 4), (5, 5), (6, 2147483647)] [] [] [] = true := by decide +kernel
set_option maxRecDepth 1000000 in
theorem xr_28_1_0 : xokS (nI 28) (0, 0) [(xmi, -1), (0, 0), (1, 1), (2, 2), (3, 3), (4, 4), (5, 5)] [] [] [] = true := by decide +kernel
set_option maxRecDepth 1000000 in
theorem xr_28_1_1 : xokS (nI 28) (0, 0) [(6, 2147483647)] [] [] [] = true := by decide +kernel
set_option maxRecDepth 1000000 in
theorem xr_28_2_0 : xokS (nI 28) (1, 1) [(xmi, -1), (0, 0), (1, 1), (2, 2), (3, 3), (4, 4), (5, 5)] [] [] [] = true := by decide +kernel
set_option maxRecDepth 1000000 in
theorem xr_28_2_1 : xokS (nI 28) (1, 1) [(6, 2147483647)] [] [] [] = true := by decide +kernel
set_option maxRecDepth 1000000 in
theorem xr_28_3_0 : xokS (nI 28) (2, 2) [(xmi, -1), (0, 0), (1, 1), (2, 2), (3, 3), (4, 4), (5, 5)] [] [] [] = true := by decide +kernel
set_option maxRecDepth 1000000 in
theorem xr_28_3_1 : xokS (nI 28) (2, 2) [(6, 2147483647)] [] [] [] = true := by decide +kernel
set_option maxRecDepth 1000000 in
theorem xr_28_4_0 : xokS (nI 28) (3, 3) [(xmi, -1), (0, 0), (1, 1), (2, 2), (3, 3), (4, 4), (5, 5)] [] [] [] = true := by decide +kernel
set_option maxRecDepth 1000000 in
theorem xr_28_4_1 : xokS (nI 28) (3, 3) [(6, 2147483647)] [] [] [] = true := by decide +kernel
set_option maxRecDepth 1000000 in
theorem xr_28_5_0 : xokS (nI 28) (4, 4) [(xmi, -1), (0, 0), (1, 1), (2, 2), (3, 3), (4, 4), (5, 5)] [] [] [] = true := by decide +kernel
set_option maxRecDepth 1000000 in
theorem xr_28_5_1 : xokS (nI 28) (4, 4) [(6, 2147483647)] [] [] [] = true := by decide +kernel
set_option maxRecDepth 1000000 in
theorem xr_28_6_0 : xokS (nI 28) (5, 5) [(xmi, -1), (0, 0), (1, 1), (2, 2), (3, 3), (4, 4), (5, 5)] [] [] [] = true := by decide +kernel
set_option maxRecDepth 1000000 in
theorem xr_28_6_1 : xokS (nI 28) (5, 5) [(6, 2147483647)] [] [] [] = true := by decide +kernel
set_option maxRecDepth 1000000 in
theorem xr_28_7_0 : xokS (nI 28) (6, 2147483647) [(xmi, -1), (0, 0), (1, 1), (2, 2), (3, 3), (4, 4), (5, 5), (6, 2147483647)] [] [] [] = true := by decide +kernel
