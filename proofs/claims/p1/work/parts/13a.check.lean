set_option maxRecDepth 1000000 in
theorem xl_0 : xe_law [] none [] = true := by decide +kernel
set_option maxRecDepth 1000000 in
theorem xl_1 : xe_law [] none [.float 0] = true := by decide +kernel
set_option maxRecDepth 1000000 in
theorem xl_2 : xe_law [] none [.float 0, .float 1] = true := by decide +kernel
set_option maxRecDepth 1000000 in
theorem xl_3 : xe_law [] none [.float 0, .float 1, .float 2] = true := by decide +kernel
set_option maxRecDepth 1000000 in
theorem xl_4 : xe_law [] none [.float 0, .float 1, .float 2, .float 3] = true := by decide +kernel
set_option maxRecDepth 1000000 in
theorem xl_5 : xe_law [] none [.float 0, .float 1, .float 2, .float 3, .float 4] = true := by decide +kernel
set_option maxRecDepth 1000000 in
theorem xgr_1 : (xok (nI 1) [(-1, 0), (0, 1), (1, 2), (2, 3), (3, 4), (4, 5), (5, 6)] [] [] [] [] && (xok (nI 2) [(-1, 0), (0, 1), (1, 2), (2, 3), (3, 4), (4, 5), (5, 6)] [] [] [] [] && (xok (nI 3) [(-1, 0), (0, 1), (1, 2), (2, 3), (3, 4), (4, 5), (5, 6)] [] [] [] [] && (xok (nI 5) [(-1, 0), (0, 1), (1, 2), (2, 3), (3, 4), (4, 5), (5, 6)] [] [] [] [] && (xok (nI 7) [(-1, 0), (0, 1), (1, 2), (2, 3), (3, 4)] [] [] [] [] && (xok (nI 8) [(-1, 0), (0, 1), (1, 2), (2, 3), (3, 4)] [] [] [] [] && (xok (nI 9) [(-1, 0), (0, 1), (1, 2), (2, 3), (3, 4)] [] [] [] [] && (xok (nI 10) [(-1, 0)] [] [] [] [])))))))) = true := by decide +kernel
theorem xok_1 : xok (nI 1) [(-1, 0), (0, 1), (1, 2), (2, 3), (3, 4), (4, 5), (5, 6)] [] [] [] [] = true := (Bool.and_eq_true_iff.mp (xgr_1)).1
theorem xok_2 : xok (nI 2) [(-1, 0), (0, 1), (1, 2), (2, 3), (3, 4), (4, 5), (5, 6)] [] [] [] [] = true := (Bool.and_eq_true_iff.mp ((Bool.and_eq_true_iff.mp (xgr_1)).2)).1
theorem xok_3 : xok (nI 3) [(-1, 0), (0, 1), (1, 2), (2, 3), (3, 4), (4, 5), (5, 6)] [] [] [] [] = true := (Bool.and_eq_true_iff.mp ((Bool.and_eq_true_iff.mp ((Bool.and_eq_true_iff.mp (xgr_1)).2)).2)).1
theorem xok_5 : xok (nI 5) [(-1, 0), (0, 1), (1, 2), (2, 3), (3, 4), (4, 5), (5, 6)] [] [] [] [] = true := (Bool.and_eq_true_iff.mp ((Bool.and_eq_true_iff.mp ((Bool.and_eq_true_iff.mp ((Bool.and_eq_true_iff.mp (xgr_1)).2)).2)).2)).1
theorem xok_7 : xok (nI 7) [(-1, 0), (0, 1), (1, 2), (2, 3), (3, 4)] [] [] [] [] = true := (Bool.and_eq_true_iff.mp ((Bool.and_eq_true_iff.mp ((Bool.and_eq_true_iff.mp ((Bool.and_eq_true_iff.mp ((Bool.and_eq_true_iff.mp (xgr_1)).2)).2)).2)).2)).1
theorem xok_8 : xok (nI 8) [(-1, 0), (0, 1), (1, 2), (2, 3), (3, 4)] [] [] [] [] = true := (Bool.and_eq_true_iff.mp ((Bool.and_eq_true_iff.mp ((Bool.and_eq_true_iff.mp ((Bool.and_eq_true_iff.mp ((Bool.and_eq_true_iff.mp ((Bool.and_eq_true_iff.mp (xgr_1)).2)).2)).2)).2)).2)).1
theorem xok_9 : xok (nI 9) [(-1, 0), (0, 1), (1, 2), (2, 3), (3, 4)] [] [] [] [] = true := (Bool.and_eq_true_iff.mp ((Bool.and_eq_true_iff.mp ((Bool.and_eq_true_iff.mp ((Bool.and_eq_true_iff.mp ((Bool.and_eq_true_iff.mp ((Bool.and_eq_true_iff.mp ((Bool.and_eq_true_iff.mp (xgr_1)).2)).2)).2)).2)).2)).2)).1
theorem xok_10 : xok (nI 10) [(-1, 0)] [] [] [] [] = true := (Bool.and_eq_true_iff.mp ((Bool.and_eq_true_iff.mp ((Bool.and_eq_true_iff.mp ((Bool.and_eq_true_iff.mp ((Bool.and_eq_true_iff.mp ((Bool.and_eq_true_iff.mp ((Bool.and_eq_true_iff.mp (xgr_1)).2)).2)).2)).2)).2)).2)).2
set_option maxRecDepth 1000000 in
theorem xgr_11 : (xok (nI 11) [(-1, 0)] [] [] [] [] && (xok (nI 12) [(-1, 0), (0, 1), (1, 2), (2, 3), (3, 4), (4, 5), (5, 6)] [] [] [] [] && (xok (nI 13) [(-1, 0)] [] [] [] [] && (xok (nI 14) [(-1, 0)] [] [] [] [] && (xok (nI 15) [(-1, 0)] [] [] [] [] && (xok (nI 16) [] [] [] [] [] && (xok (nI 17) [(-1, 0), (0, 1)] [] [] [] [] && (xok (nI 18) [(-1, 0), (0, 1), (1, 2), (2, 3)] [] [] [] [])))))))) = true := by decide +kernel
theorem xok_11 : xok (nI 11) [(-1, 0)] [] [] [] [] = true := (Bool.and_eq_true_iff.mp (xgr_11)).1
theorem xok_12 : xok (nI 12) [(-1, 0), (0, 1), (1, 2), (2, 3), (3, 4), (4, 5), (5, 6)] [] [] [] [] = true := (Bool.and_eq_true_iff.mp ((Bool.and_eq_true_iff.mp (xgr_11)).2)).1
theorem xok_13 : xok (nI 13) [(-1, 0)] [] [] [] [] = true := (Bool.and_eq_true_iff.mp ((Bool.and_eq_true_iff.mp ((Bool.and_eq_true_iff.mp (xgr_11)).2)).2)).1
theorem xok_14 : xok (nI 14) [(-1, 0)] [] [] [] [] = true := (Bool.and_eq_true_iff.mp ((Bool.and_eq_true_iff.mp ((Bool.and_eq_true_iff.mp ((Bool.and_eq_true_iff.mp (xgr_11)).2)).2)).2)).1
theorem xok_15 : xok (nI 15) [(-1, 0)] [] [] [] [] = true := (Bool.and_eq_true_iff.mp ((Bool.and_eq_true_iff.mp ((Bool.and_eq_true_iff.mp ((Bool.and_eq_true_iff.mp ((Bool.and_eq_true_iff.mp (xgr_11)).2)).2)).2)).2)).1
theorem xok_16 : xok (nI 16) [] [] [] [] [] = true := (Bool.and_eq_true_iff.mp ((Bool.and_eq_true_iff.mp ((Bool.and_eq_true_iff.mp ((Bool.and_eq_true_iff.mp ((Bool.and_eq_true_iff.mp ((Bool.and_eq_true_iff.mp (xgr_11)).2)).2)).2)).2)).2)).1
theorem xok_17 : xok (nI 17) [(-1, 0), (0, 1)] [] [] [] [] = true := (Bool.and_eq_true_iff.mp ((Bool.and_eq_true_iff.mp ((Bool.and_eq_true_iff.mp ((Bool.and_eq_true_iff.mp ((Bool.and_eq_true_iff.mp ((Bool.and_eq_true_iff.mp ((Bool.and_eq_true_iff.mp (xgr_11)).2)).2)).2)).2)).2)).2)).1
theorem xok_18 : xok (nI 18) [(-1, 0), (0, 1), (1, 2), (2, 3)] [] [] [] [] = true := (Bool.and_eq_true_iff.mp ((Bool.and_eq_true_iff.mp ((Bool.and_eq_true_iff.mp ((Bool.and_eq_true_iff.mp ((Bool.and_eq_true_iff.mp ((Bool.and_eq_true_iff.mp ((Bool.and_eq_true_iff.mp (xgr_11)).2)).2)).2)).2)).2)).2)).2
set_option maxRecDepth 1000000 in
theorem xgr_19 : (xok (nI 19) [(-1, 0), (0, 1), (1, 2), (2, 3)] [] [] [] [] && (xok (nI 20) [(-1, 0)] [] [] [] [] && (xok (nI 21) [(-1, 0)] [] [] [] [] && (xok (nI 22) [(-1, 0)] [] [] [] [] && (xok (nI 24) [(-1, 0)] [] [] [] [] && (xok (nI 25) [(-1, 0)] [] [] [] [] && (xok (nI 26) [(-1, 0)] [] [] [] [] && (xok (nI 29) [(-1, 0)] [] [] [] [])))))))) = true := by decide +kernel
theorem xok_19 : xok (nI 19) [(-1, 0), (0, 1), (1, 2), (2, 3)] [] [] [] [] = true := (Bool.and_eq_true_iff.mp (xgr_19)).1
theorem xok_20 : xok (nI 20) [(-1, 0)] [] [] [] [] = true := (Bool.and_eq_true_iff.mp ((Bool.and_eq_true_iff.mp (xgr_19)).2)).1
theorem xok_21 : xok (nI 21) [(-1, 0)] [] [] [] [] = true := (Bool.and_eq_true_iff.mp ((Bool.and_eq_true_iff.mp ((Bool.and_eq_true_iff.mp (xgr_19)).2)).2)).1
theorem xok_22 : xok (nI 22) [(-1, 0)] [] [] [] [] = true := (Bool.and_eq_true_iff.mp ((Bool.and_eq_true_iff.mp ((Bool.and_eq_true_iff.mp ((Bool.and_eq_true_iff.mp (xgr_19)).2)).2)).2)).1
theorem xok_24 : xok (nI 24) [(-1, 0)] [] [] [] [] = true := (Bool.and_eq_true_iff.mp ((Bool.and_eq_true_iff.mp ((Bool.and_eq_true_iff.mp ((Bool.and_eq_true_iff.mp ((Bool.and_eq_true_iff.mp (xgr_19)).2)).2)).2)).2)).1
theorem xok_25 : xok (nI 25) [(-1, 0)] [] [] [] [] = true := (Bool.and_eq_true_iff.mp ((Bool.and_eq_true_iff.mp ((Bool.and_eq_true_iff.mp ((Bool.and_eq_true_iff.mp ((Bool.and_eq_true_iff.mp ((Bool.and_eq_true_iff.mp (xgr_19)).2)).2)).2)).2)).2)).1
theorem xok_26 : xok (nI 26) [(-1, 0)] [] [] [] [] = true := (Bool.and_eq_true_iff.mp ((Bool.and_eq_true_iff.mp ((Bool.and_eq_true_iff.mp ((Bool.and_eq_true_iff.mp ((Bool.and_eq_true_iff.mp ((Bool.and_eq_true_iff.mp ((Bool.and_eq_true_iff.mp (xgr_19)).2)).2)).2)).2)).2)).2)).1
theorem xok_29 : xok (nI 29) [(-1, 0)] [] [] [] [] = true := (Bool.and_eq_true_iff.mp ((Bool.and_eq_true_iff.mp ((Bool.and_eq_true_iff.mp ((Bool.and_eq_true_iff.mp ((Bool.and_eq_true_iff.mp ((Bool.and_eq_true_iff.mp ((Bool.and_eq_true_iff.mp (xgr_19)).2)).2)).2)).2)).2)).2)).2
set_option maxRecDepth 1000000 in
theorem xgr_30 : (xok (nI 30) [(-1, 0)] [] [] [] [] && (xok (nI 31) [(-1, 0)] [] [] [] [])) = true := by decide +kernel
theorem xok_30 : xok (nI 30) [(-1, 0)] [] [] [] [] = true := (Bool.and_eq_true_iff.mp (xgr_30)).1
theorem xok_31 : xok (nI 31) [(-1, 0)] [] [] [] [] = true := (Bool.and_eq_true_iff.mp (xgr_30)).2
