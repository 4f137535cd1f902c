set_option maxRecDepth 1000000 in
theorem xr_0_0_0 : xokS (nI 0) (xmi, -1) [(xmi, -1), (0, 0), (1, 1), (2, 2), (3, 3), (4, 4), (5, 5), (6, 6), (7, 7), (8, 8), (9, 9), (10, 10), (11, 11), (12, 12), (13, 13), (14, 14), (15, 15), (16, 16), (17, 17), (18, 18), (19, 19), (20, 20), (21, 21), (22, 22), (23, 23), (24, 24), (25, 25), (26, 26), (27, 27), (28, 28), (29, 29), (30, 30), (31, 31), (32, 32), (33, 33), (34, 34), (35, 35), (36, 36), (37, 37), (38, 38), (39, 39), (40, 40), (41, 2147483647)] [] [] [] = true := by decide +kernel
set_option maxRecDepth 1000000 in
theorem xr_0_1_0 : xokS (nI 0) (0, 0) [(xmi, -1), (0, 0), (1, 1), (2, 2), (3, 3), (4, 4), (5, 5), (6, 6), (7, 7), (8, 8), (9, 9), (10, 10), (11, 11), (12, 12), (13, 13), (14, 14), (15, 15), (16, 16), (17, 17), (18, 18), (19, 19)] [] [] [] = true := by decide +kernel
set_option maxRecDepth 1000000 in
theorem xr_0_1_1 : xokS (nI 0) (0, 0) [(20, 20), (21, 21), (22, 22), (23, 23), (24, 24), (25, 25), (26, 26), (27, 27), (28, 28)] [] [] [] = true := by decide +kernel
set_option maxRecDepth 1000000 in
theorem xr_0_1_2 : xokS (nI 0) (0, 0) [(29, 29), (30, 30), (31, 31), (32, 32), (33, 33), (34, 34), (35, 35)] [] [] [] = true := by decide +kernel
set_option maxRecDepth 1000000 in
theorem xr_0_1_3 : xokS (nI 0) (0, 0) [(36, 36), (37, 37), (38, 38), (39, 39), (40, 40)] [] [] [] = true := by decide +kernel
set_option maxRecDepth 1000000 in
theorem xr_0_1_4 : xokS (nI 0) (0, 0) [(41, 2147483647)] [] [] [] = true := by decide +kernel
set_option maxRecDepth 1000000 in
theorem xr_0_2_0 : xokS (nI 0) (1, 1) [(xmi, -1), (0, 0), (1, 1), (2, 2), (3, 3), (4, 4), (5, 5), (6, 6), (7, 7), (8, 8), (9, 9), (10, 10), (11, 11), (12, 12), (13, 13), (14, 14), (15, 15), (16, 16), (17, 17), (18, 18), (19, 19)] [] [] [] = true := by decide +kernel
set_option maxRecDepth 1000000 in
theorem xr_0_2_1 : xokS (nI 0) (1, 1) [(20, 20), (21, 21), (22, 22), (23, 23), (24, 24), (25, 25), (26, 26), (27, 27), (28, 28)] [] [] [] = true := by decide +kernel
set_option maxRecDepth 1000000 in
theorem xr_0_2_2 : xokS (nI 0) (1, 1) [(29, 29), (30, 30), (31, 31), (32, 32), (33, 33), (34, 34), (35, 35)] [] [] [] = true := by decide +kernel
set_option maxRecDepth 1000000 in
theorem xr_0_2_3 : xokS (nI 0) (1, 1) [(36, 36), (37, 37), (38, 38), (39, 39), (40, 40)] [] [] [] = true := by decide +kernel
set_option maxRecDepth 1000000 in
theorem xr_0_2_4 : xokS (nI 0) (1, 1) [(41, 2147483647)] [] [] [] = true := by decide +kernel
set_option maxRecDepth 1000000 in
theorem xr_0_3_0 : xokS (nI 0) (2, 2) [(xmi, -1), (0, 0), (1, 1), (2, 2), (3, 3), (4, 4), (5, 5), (6, 6), (7, 7), (8, 8), (9, 9), (10, 10), (11, 11), (12, 12), (13, 13), (14, 14), (15, 15), (16, 16), (17, 17), (18, 18), (19, 19)] [] [] [] = true := by decide +kernel
set_option maxRecDepth 1000000 in
theorem xr_0_3_1 : xokS (nI 0) (2, 2) [(20, 20), (21, 21), (22, 22), (23, 23), (24, 24), (25, 25), (26, 26), (27, 27), (28, 28)] [] [] [] = true := by decide +kernel
set_option maxRecDepth 1000000 in
theorem xr_0_3_2 : xokS (nI 0) (2, 2) [(29, 29), (30, 30), (31, 31), (32, 32), (33, 33), (34, 34), (35, 35)] [] [] [] = true := by decide +kernel
set_option maxRecDepth 1000000 in
theorem xr_0_3_3 : xokS (nI 0) (2, 2) [(36, 36), (37, 37), (38, 38), (39, 39), (40, 40)] [] [] [] = true := by decide +kernel
set_option maxRecDepth 1000000 in
theorem xr_0_3_4 : xokS (nI 0) (2, 2) [(41, 2147483647)] [] [] [] = true := by decide +kernel
set_option maxRecDepth 1000000 in
theorem xr_0_4_0 : xokS (nI 0) (3, 3) [(xmi, -1), (0, 0), (1, 1), (2, 2), (3, 3), (4, 4), (5, 5), (6, 6), (7, 7), (8, 8), (9, 9), (10, 10), (11, 11), (12, 12), (13, 13), (14, 14), (15, 15), (16, 16), (17, 17), (18, 18), (19, 19)] [] [] [] = true := by decide +kernel
set_option maxRecDepth 1000000 in
theorem xr_0_4_1 : xokS (nI 0) (3, 3) [(20, 20), (21, 21), (22, 22), (23, 23), (24, 24), (25, 25), (26, 26), (27, 27), (28, 28)] [] [] [] = true := by decide +kernel
set_option maxRecDepth 1000000 in
theorem xr_0_4_2 : xokS (nI 0) (3, 3) [(29, 29), (30, 30), (31, 31), (32, 32), (33, 33), (34, 34), (35, 35)] [] [] [] = true := by decide +kernel
set_option maxRecDepth 1000000 in
theorem xr_0_4_3 : xokS (nI 0) (3, 3) [(36, 36), (37, 37), (38, 38), (39, 39), (40, 40)] [] [] [] = true := by decide +kernel
set_option maxRecDepth 1000000 in
theorem xr_0_4_4 : xokS (nI 0) (3, 3) [(41, 2147483647)] [] [] [] = true := by decide +kernel
set_option maxRecDepth 1000000 in
theorem xr_0_5_0 : xokS (nI 0) (4, 4) [(xmi, -1), (0, 0), (1, 1), (2, 2), (3, 3), (4, 4), (5, 5), (6, 6), (7, 7), (8, 8), (9, 9), (10, 10), (11, 11), (12, 12), (13, 13), (14, 14), (15, 15), (16, 16), (17, 17), (18, 18), (19, 19)] [] [] [] = true := by decide +kernel
set_option maxRecDepth 1000000 in
theorem xr_0_5_1 : xokS (nI 0) (4, 4) [(20, 20), (21, 21), (22, 22), (23, 23), (24, 24), (25, 25), (26, 26), (27, 27), (28, 28)] [] [] [] = true := by decide +kernel
set_option maxRecDepth 1000000 in
theorem xr_0_5_2 : xokS (nI 0) (4, 4) [(29, 29), (30, 30), (31, 31), (32, 32), (33, 33), (34, 34), (35, 35)] [] [] [] = true := by decide +kernel
set_option maxRecDepth 1000000 in
theorem xr_0_5_3 : xokS (nI 0) (4, 4) [(36, 36), (37, 37), (38, 38), (39, 39), (40, 40)] [] [] [] = true := by decide +kernel
set_option maxRecDepth 1000000 in
theorem xr_0_5_4 : xokS (nI 0) (4, 4) [(41, 2147483647)] [] [] [] = true := by decide +kernel
set_option maxRecDepth 1000000 in
theorem xr_0_6_0 : xokS (nI 0) (5, 5) [(xmi, -1), (0, 0), (1, 1), (2, 2), (3, 3), (4, 4), (5, 5), (6, 6), (7, 7), (8, 8), (9, 9), (10, 10), (11, 11), (12, 12), (13, 13), (14, 14), (15, 15), (16, 16), (17, 17), (18, 18), (19, 19)] [] [] [] = true := by decide +kernel
set_option maxRecDepth 1000000 in
theorem xr_0_6_1 : xokS (nI 0) (5, 5) [(20, 20), (21, 21), (22, 22), (23, 23), (24, 24), (25, 25), (26, 26), (27, 27), (28, 28)] [] [] [] = true := by decide +kernel
set_option maxRecDepth 1000000 in
theorem xr_0_6_2 : xokS (nI 0) (5, 5) [(29, 29), (30, 30), (31, 31), (32, 32), (33, 33), (34, 34), (35, 35)] [] [] [] = true := by decide +kernel
set_option maxRecDepth 1000000 in
theorem xr_0_6_3 : xokS (nI 0) (5, 5) [(36, 36), (37, 37), (38, 38), (39, 39), (40, 40)] [] [] [] = true := by decide +kernel
set_option maxRecDepth 1000000 in
theorem xr_0_6_4 : xokS (nI 0) (5, 5) [(41, 2147483647)] [] [] [] = true := by decide +kernel
set_option maxRecDepth 1000000 in
theorem xr_0_7_0 : xokS (nI 0) (6, 2147483647) [(xmi, -1), (0, 0), (1, 1), (2, 2), (3, 3), (4, 4), (5, 5), (6, 6), (7, 7), (8, 8), (9, 9), (10, 10), (11, 11), (12, 12), (13, 13), (14, 14), (15, 15), (16, 16), (17, 17), (18, 18), (19, 19), (20, 20), (21, 21), (22, 22), (23, 23), (24, 24), (25, 25), (26, 26), (27, 27), (28, 28), (29, 29), (30, 30), (31, 31), (32, 32), (33, 33), (34, 34), (35, 35), (36, 36), (37, 37), (38, 38), (39, 39), (40, 40), (41, 2147483647)] [] [] [] = true := by decide +kernel
