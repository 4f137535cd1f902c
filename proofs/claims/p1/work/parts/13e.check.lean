set_option maxRecDepth 1000000 in
theorem xr_6_0_0 : xokS (nI 6) (xmi, -1) [(xmi, -1), (0, 0), (1, 1), (2, 2), (3, 3), (4, 4), (5, 5), (6, 6), (7, 7), (8, 8), (9, 9), (10, 10), (11, 11), (12, 12), (13, 13), (14, 14), (15, 15), (16, 16), (17, 17), (18, 18), (19, 19), (20, 20), (21, 21), (22, 22), (23, 23), (24, 24), (25, 25), (26, 26), (27, 27), (28, 28), (29, 29), (30, 30), (31, 31), (32, 32), (33, 33), (34, 34), (35, 35), (36, 36), (37, 37), (38, 38), (39, 39), (40, 40), (41, 41), (42, 42), (43, 43), (44, 44), (45, 45), (46, 46), (47, 47), (48, 48), (49, 49), (50, 50), (51, 51), (52, 52), (53, 53), (54, 54), (55, 55), (56, 56), (57, 57), (58, 58), (59, 59), (60, 60), (61, 2147483647)] [] [] [] = true := by decide +kernel
set_option maxRecDepth 1000000 in
theorem xr_6_1_0 : xokS (nI 6) (0, 0) [(xmi, -1), (0, 0), (1, 1), (2, 2), (3, 3), (4, 4), (5, 5), (6, 6), (7, 7), (8, 8), (9, 9), (10, 10), (11, 11), (12, 12), (13, 13), (14, 14), (15, 15), (16, 16), (17, 17), (18, 18), (19, 19)] [] [] [] = true := by decide +kernel
set_option maxRecDepth 1000000 in
theorem xr_6_1_1 : xokS (nI 6) (0, 0) [(20, 20), (21, 21), (22, 22), (23, 23), (24, 24), (25, 25), (26, 26), (27, 27), (28, 28)] [] [] [] = true := by decide +kernel
set_option maxRecDepth 1000000 in
theorem xr_6_1_2 : xokS (nI 6) (0, 0) [(29, 29), (30, 30), (31, 31), (32, 32), (33, 33), (34, 34), (35, 35)] [] [] [] = true := by decide +kernel
set_option maxRecDepth 1000000 in
theorem xr_6_1_3 : xokS (nI 6) (0, 0) [(36, 36), (37, 37), (38, 38), (39, 39), (40, 40)] [] [] [] = true := by decide +kernel
set_option maxRecDepth 1000000 in
theorem xr_6_1_4 : xokS (nI 6) (0, 0) [(41, 41), (42, 42), (43, 43), (44, 44), (45, 45)] [] [] [] = true := by decide +kernel
set_option maxRecDepth 1000000 in
theorem xr_6_1_5 : xokS (nI 6) (0, 0) [(46, 46), (47, 47), (48, 48), (49, 49)] [] [] [] = true := by decide +kernel
set_option maxRecDepth 1000000 in
theorem xr_6_1_6 : xokS (nI 6) (0, 0) [(50, 50), (51, 51), (52, 52), (53, 53)] [] [] [] = true := by decide +kernel
set_option maxRecDepth 1000000 in
theorem xr_6_1_7 : xokS (nI 6) (0, 0) [(54, 54), (55, 55), (56, 56), (57, 57)] [] [] [] = true := by decide +kernel
set_option maxRecDepth 1000000 in
theorem xr_6_1_8 : xokS (nI 6) (0, 0) [(58, 58), (59, 59), (60, 60)] [] [] [] = true := by decide +kernel
set_option maxRecDepth 1000000 in
theorem xr_6_1_9 : xokS (nI 6) (0, 0) [(61, 2147483647)] [] [] [] = true := by decide +kernel
set_option maxRecDepth 1000000 in
theorem xr_6_2_0 : xokS (nI 6) (1, 1) [(xmi, -1), (0, 0), (1, 1), (2, 2), (3, 3), (4, 4), (5, 5), (6, 6), (7, 7), (8, 8), (9, 9), (10, 10), (11, 11), (12, 12), (13, 13), (14, 14), (15, 15), (16, 16), (17, 17), (18, 18), (19, 19)] [] [] [] = true := by decide +kernel
set_option maxRecDepth 1000000 in
theorem xr_6_2_1 : xokS (nI 6) (1, 1) [(20, 20), (21, 21), (22, 22), (23, 23), (24, 24), (25, 25), (26, 26), (27, 27), (28, 28)] [] [] [] = true := by decide +kernel
set_option maxRecDepth 1000000 in
theorem xr_6_2_2 : xokS (nI 6) (1, 1) [(29, 29), (30, 30), (31, 31), (32, 32), (33, 33), (34, 34), (35, 35)] [] [] [] = true := by decide +kernel
set_option maxRecDepth 1000000 in
theorem xr_6_2_3 : xokS (nI 6) (1, 1) [(36, 36), (37, 37), (38, 38), (39, 39), (40, 40)] [] [] [] = true := by decide +kernel
set_option maxRecDepth 1000000 in
theorem xr_6_2_4 : xokS (nI 6) (1, 1) [(41, 41), (42, 42), (43, 43), (44, 44), (45, 45)] [] [] [] = true := by decide +kernel
set_option maxRecDepth 1000000 in
theorem xr_6_2_5 : xokS (nI 6) (1, 1) [(46, 46), (47, 47), (48, 48), (49, 49)] [] [] [] = true := by decide +kernel
set_option maxRecDepth 1000000 in
theorem xr_6_2_6 : xokS (nI 6) (1, 1) [(50, 50), (51, 51), (52, 52), (53, 53)] [] [] [] = true := by decide +kernel
set_option maxRecDepth 1000000 in
theorem xr_6_2_7 : xokS (nI 6) (1, 1) [(54, 54), (55, 55), (56, 56), (57, 57)] [] [] [] = true := by decide +kernel
set_option maxRecDepth 1000000 in
theorem xr_6_2_8 : xokS (nI 6) (1, 1) [(58, 58), (59, 59), (60, 60)] [] [] [] = true := by decide +kernel
set_option maxRecDepth 1000000 in
theorem xr_6_2_9 : xokS (nI 6) (1, 1) [(61, 2147483647)] [] [] [] = true := by decide +kernel
set_option maxRecDepth 1000000 in
theorem xr_6_3_0 : xokS (nI 6) (2, 2) [(xmi, -1), (0, 0), (1, 1), (2, 2), (3, 3), (4, 4), (5, 5), (6, 6), (7, 7), (8, 8), (9, 9), (10, 10), (11, 11), (12, 12), (13, 13), (14, 14), (15, 15), (16, 16), (17, 17), (18, 18), (19, 19)] [] [] [] = true := by decide +kernel
set_option maxRecDepth 1000000 in
theorem xr_6_3_1 : xokS (nI 6) (2, 2) [(20, 20), (21, 21), (22, 22), (23, 23), (24, 24), (25, 25), (26, 26), (27, 27), (28, 28)] [] [] [] = true := by decide +kernel
set_option maxRecDepth 1000000 in
theorem xr_6_3_2 : xokS (nI 6) (2, 2) [(29, 29), (30, 30), (31, 31), (32, 32), (33, 33), (34, 34), (35, 35)] [] [] [] = true := by decide +kernel
set_option maxRecDepth 1000000 in
theorem xr_6_3_3 : xokS (nI 6) (2, 2) [(36, 36), (37, 37), (38, 38), (39, 39), (40, 40)] [] [] [] = true := by decide +kernel
set_option maxRecDepth 1000000 in
theorem xr_6_3_4 : xokS (nI 6) (2, 2) [(41, 41), (42, 42), (43, 43), (44, 44), (45, 45)] [] [] [] = true := by decide +kernel
set_option maxRecDepth 1000000 in
theorem xr_6_3_5 : xokS (nI 6) (2, 2) [(46, 46), (47, 47), (48, 48), (49, 49)] [] [] [] = true := by decide +kernel
set_option maxRecDepth 1000000 in
theorem xr_6_3_6 : xokS (nI 6) (2, 2) [(50, 50), (51, 51), (52, 52), (53, 53)] [] [] [] = true := by decide +kernel
set_option maxRecDepth 1000000 in
theorem xr_6_3_7 : xokS (nI 6) (2, 2) [(54, 54), (55, 55), (56, 56), (57, 57)] [] [] [] = true := by decide +kernel
set_option maxRecDepth 1000000 in
theorem xr_6_3_8 : xokS (nI 6) (2, 2) [(58, 58), (59, 59), (60, 60)] [] [] [] = true := by decide +kernel
set_option maxRecDepth 1000000 in
theorem xr_6_3_9 : xokS (nI 6) (2, 2) [(61, 2147483647)] [] [] [] = true := by decide +kernel
set_option maxRecDepth 1000000 in
theorem xr_6_4_0 : xokS (nI 6) (3, 3) [(xmi, -1), (0, 0), (1, 1), (2, 2), (3, 3), (4, 4), (5, 5), (6, 6), (7, 7), (8, 8), (9, 9), (10, 10), (11, 11), (12, 12), (13, 13), (14, 14), (15, 15), (16, 16), (17, 17), (18, 18), (19, 19)] [] [] [] = true := by decide +kernel
set_option maxRecDepth 1000000 in
theorem xr_6_4_1 : xokS (nI 6) (3, 3) [(20, 20), (21, 21), (22, 22), (23, 23), (24, 24), (25, 25), (26, 26), (27, 27), (28, 28)] [] [] [] = true := by decide +kernel
set_option maxRecDepth 1000000 in
theorem xr_6_4_2 : xokS (nI 6) (3, 3) [(29, 29), (30, 30), (31, 31), (32, 32), (33, 33), (34, 34), (35, 35)] [] [] [] = true := by decide +kernel
set_option maxRecDepth 1000000 in
theorem xr_6_4_3 : xokS (nI 6) (3, 3) [(36, 36), (37, 37), (38, 38), (39, 39), (40, 40)] [] [] [] = true := by decide +kernel
set_option maxRecDepth 1000000 in
theorem xr_6_4_4 : xokS (nI 6) (3, 3) [(41, 41), (42, 42), (43, 43), (44, 44), (45, 45)] [] [] [] = true := by decide +kernel
set_option maxRecDepth 1000000 in
theorem xr_6_4_5 : xokS (nI 6) (3, 3) [(46, 46), (47, 47), (48, 48), (49, 49)] [] [] [] = true := by decide +kernel
set_option maxRecDepth 1000000 in
theorem xr_6_4_6 : xokS (nI 6) (3, 3) [(50, 50), (51, 51), (52, 52), (53, 53)] [] [] [] = true := by decide +kernel
set_option maxRecDepth 1000000 in
theorem xr_6_4_7 : xokS (nI 6) (3, 3) [(54, 54), (55, 55), (56, 56), (57, 57)] [] [] [] = true := by decide +kernel
set_option maxRecDepth 1000000 in
theorem xr_6_4_8 : xokS (nI 6) (3, 3) [(58, 58), (59, 59), (60, 60)] [] [] [] = true := by decide +kernel
set_option maxRecDepth 1000000 in
theorem xr_6_4_9 : xokS (nI 6) (3, 3) [(61, 2147483647)] [] [] [] = true := by decide +kernel
set_option maxRecDepth 1000000 in
theorem xr_6_5_0 : xokS (nI 6) (4, 2147483647) [(xmi, -1), (0, 0), (1, 1), (2, 2), (3, 3), (4, 4), (5, 5), (6, 6), (7, 7), (8, 8), (9, 9), (10, 10), (11, 11), (12, 12), (13, 13), (14, 14), (15, 15), (16, 16), (17, 17), (18, 18), (19, 19), (20, 20), (21, 21), (22, 22), (23, 23), (24, 24), (25, 25), (26, 26), (27, 27), (28, 28), (29, 29), (30, 30), (31, 31), (32, 32), (33, 33), (34, 34), (35, 35), (36, 36), (37, 37), (38, 38), (39, 39), (40, 40), (41, 41), (42, 42), (43, 43), (44, 44), (45, 45), (46, 46), (47, 47), (48, 48), (49, 49), (50, 50), (51, 51), (52, 52), (53, 53), (54, 54), (55, 55), (56, 56), (57, 57), (58, 58), (59, 59), (60, 60), (61, 2147483647)] [] [] [] = true := by decide +kernel
