set_option maxRecDepth 1000000 in
theorem xgr_32 : (xok (nI 32) [(-1, 0), (3, 4)] [] [] [] [] && (xok (nI 33) [(0, 1), (3, 4)] [] [] [] [] && (xok (nI 34) [(-1, 0)] [] [] [] [] && (xok (nI 35) [(-1, 0)] [] [] [] [] && (xok (nI 36) [(0, 1), (20, 21)] [(0, 1), (2147483646, 2147483647)] [] [] [] && (xok (nI 37) [] [] [] [] [] && (xok (nI 38) [] [] [] [] [] && (xok (nI 39) [] [] [] [] [])))))))) = true := by decide +kernel
theorem xok_32 : xok (nI 32) [(-1, 0), (3, 4)] [] [] [] [] = true := (Bool.and_eq_true_iff.mp (xgr_32)).1
theorem xok_33 : xok (nI 33) [(0, 1), (3, 4)] [] [] [] [] = true := (Bool.and_eq_true_iff.mp ((Bool.and_eq_true_iff.mp (xgr_32)).2)).1
theorem xok_34 : xok (nI 34) [(-1, 0)] [] [] [] [] = true := (Bool.and_eq_true_iff.mp ((Bool.and_eq_true_iff.mp ((Bool.and_eq_true_iff.mp (xgr_32)).2)).2)).1
theorem xok_35 : xok (nI 35) [(-1, 0)] [] [] [] [] = true := (Bool.and_eq_true_iff.mp ((Bool.and_eq_true_iff.mp ((Bool.and_eq_true_iff.mp ((Bool.and_eq_true_iff.mp (xgr_32)).2)).2)).2)).1
theorem xok_36 : xok (nI 36) [(0, 1), (20, 21)] [(0, 1), (2147483646, 2147483647)] [] [] [] = true := (Bool.and_eq_true_iff.mp ((Bool.and_eq_true_iff.mp ((Bool.and_eq_true_iff.mp ((Bool.and_eq_true_iff.mp ((Bool.and_eq_true_iff.mp (xgr_32)).2)).2)).2)).2)).1
theorem xok_37 : xok (nI 37) [] [] [] [] [] = true := (Bool.and_eq_true_iff.mp ((Bool.and_eq_true_iff.mp ((Bool.and_eq_true_iff.mp ((Bool.and_eq_true_iff.mp ((Bool.and_eq_true_iff.mp ((Bool.and_eq_true_iff.mp (xgr_32)).2)).2)).2)).2)).2)).1
theorem xok_38 : xok (nI 38) [] [] [] [] [] = true := (Bool.and_eq_true_iff.mp ((Bool.and_eq_true_iff.mp ((Bool.and_eq_true_iff.mp ((Bool.and_eq_true_iff.mp ((Bool.and_eq_true_iff.mp ((Bool.and_eq_true_iff.mp ((Bool.and_eq_true_iff.mp (xgr_32)).2)).2)).2)).2)).2)).2)).1
theorem xok_39 : xok (nI 39) [] [] [] [] [] = true := (Bool.and_eq_true_iff.mp ((Bool.and_eq_true_iff.mp ((Bool.and_eq_true_iff.mp ((Bool.and_eq_true_iff.mp ((Bool.and_eq_true_iff.mp ((Bool.and_eq_true_iff.mp ((Bool.and_eq_true_iff.mp (xgr_32)).2)).2)).2)).2)).2)).2)).2
set_option maxRecDepth 1000000 in
theorem xgr_40 : (xok (nI 40) [(-1, 0), (0, 1), (1, 2), (2, 3), (3, 4), (4, 5), (5, 6), (6, 7), (7, 8), (8, 9)] [] [] [] [] && (xok (nI 41) [] [] [] [] [] && (xok (nI 42) [(0, 1), (1, 2), (2, 3), (3, 4), (4, 5), (5, 6)] [] [] [] [] && (xok (nI 43) [] [] [] [] [] && (xok (nI 44) [] [] [] [] [] && (xok (nI 45) [] [] [] [] [] && (xok (nI 46) [] [] [] [] [] && (xok (nI 47) [] [] [] [] [])))))))) = true := by decide +kernel
theorem xok_40 : xok (nI 40) [(-1, 0), (0, 1), (1, 2), (2, 3), (3, 4), (4, 5), (5, 6), (6, 7), (7, 8), (8, 9)] [] [] [] [] = true := (Bool.and_eq_true_iff.mp (xgr_40)).1
theorem xok_41 : xok (nI 41) [] [] [] [] [] = true := (Bool.and_eq_true_iff.mp ((Bool.and_eq_true_iff.mp (xgr_40)).2)).1
theorem xok_42 : xok (nI 42) [(0, 1), (1, 2), (2, 3), (3, 4), (4, 5), (5, 6)] [] [] [] [] = true := (Bool.and_eq_true_iff.mp ((Bool.and_eq_true_iff.mp ((Bool.and_eq_true_iff.mp (xgr_40)).2)).2)).1
theorem xok_43 : xok (nI 43) [] [] [] [] [] = true := (Bool.and_eq_true_iff.mp ((Bool.and_eq_true_iff.mp ((Bool.and_eq_true_iff.mp ((Bool.and_eq_true_iff.mp (xgr_40)).2)).2)).2)).1
theorem xok_44 : xok (nI 44) [] [] [] [] [] = true := (Bool.and_eq_true_iff.mp ((Bool.and_eq_true_iff.mp ((Bool.and_eq_true_iff.mp ((Bool.and_eq_true_iff.mp ((Bool.and_eq_true_iff.mp (xgr_40)).2)).2)).2)).2)).1
theorem xok_45 : xok (nI 45) [] [] [] [] [] = true := (Bool.and_eq_true_iff.mp ((Bool.and_eq_true_iff.mp ((Bool.and_eq_true_iff.mp ((Bool.and_eq_true_iff.mp ((Bool.and_eq_true_iff.mp ((Bool.and_eq_true_iff.mp (xgr_40)).2)).2)).2)).2)).2)).1
theorem xok_46 : xok (nI 46) [] [] [] [] [] = true := (Bool.and_eq_true_iff.mp ((Bool.and_eq_true_iff.mp ((Bool.and_eq_true_iff.mp ((Bool.and_eq_true_iff.mp ((Bool.and_eq_true_iff.mp ((Bool.and_eq_true_iff.mp ((Bool.and_eq_true_iff.mp (xgr_40)).2)).2)).2)).2)).2)).2)).1
theorem xok_47 : xok (nI 47) [] [] [] [] [] = true := (Bool.and_eq_true_iff.mp ((Bool.and_eq_true_iff.mp ((Bool.and_eq_true_iff.mp ((Bool.and_eq_true_iff.mp ((Bool.and_eq_true_iff.mp ((Bool.and_eq_true_iff.mp ((Bool.and_eq_true_iff.mp (xgr_40)).2)).2)).2)).2)).2)).2)).2
set_option maxRecDepth 1000000 in
theorem xgr_48 : (xok (nI 48) [] [] [] [] [] && (xok (nI 49) [] [] [] [] [] && (xok (nI 50) [] [] [] [] [] && (xok (nI 51) [] [] [] [] [] && (xok (nI 52) [] [] [] [] [] && (xok (nI 53) [] [] [] [] [] && (xok (nI 54) [] [] [] [] [] && (xok (nI 55) [] [] [] [] [])))))))) = true := by decide +kernel
theorem xok_48 : xok (nI 48) [] [] [] [] [] = true := (Bool.and_eq_true_iff.mp (xgr_48)).1
theorem xok_49 : xok (nI 49) [] [] [] [] [] = true := (Bool.and_eq_true_iff.mp ((Bool.and_eq_true_iff.mp (xgr_48)).2)).1
theorem xok_50 : xok (nI 50) [] [] [] [] [] = true := (Bool.and_eq_true_iff.mp ((Bool.and_eq_true_iff.mp ((Bool.and_eq_true_iff.mp (xgr_48)).2)).2)).1
theorem xok_51 : xok (nI 51) [] [] [] [] [] = true := (Bool.and_eq_true_iff.mp ((Bool.and_eq_true_iff.mp ((Bool.and_eq_true_iff.mp ((Bool.and_eq_true_iff.mp (xgr_48)).2)).2)).2)).1
theorem xok_52 : xok (nI 52) [] [] [] [] [] = true := (Bool.and_eq_true_iff.mp ((Bool.and_eq_true_iff.mp ((Bool.and_eq_true_iff.mp ((Bool.and_eq_true_iff.mp ((Bool.and_eq_true_iff.mp (xgr_48)).2)).2)).2)).2)).1
theorem xok_53 : xok (nI 53) [] [] [] [] [] = true := (Bool.and_eq_true_iff.mp ((Bool.and_eq_true_iff.mp ((Bool.and_eq_true_iff.mp ((Bool.and_eq_true_iff.mp ((Bool.and_eq_true_iff.mp ((Bool.and_eq_true_iff.mp (xgr_48)).2)).2)).2)).2)).2)).1
theorem xok_54 : xok (nI 54) [] [] [] [] [] = true := (Bool.and_eq_true_iff.mp ((Bool.and_eq_true_iff.mp ((Bool.and_eq_true_iff.mp ((Bool.and_eq_true_iff.mp ((Bool.and_eq_true_iff.mp ((Bool.and_eq_true_iff.mp ((Bool.and_eq_true_iff.mp (xgr_48)).2)).2)).2)).2)).2)).2)).1
theorem xok_55 : xok (nI 55) [] [] [] [] [] = true := (Bool.and_eq_true_iff.mp ((Bool.and_eq_true_iff.mp ((Bool.and_eq_true_iff.mp ((Bool.and_eq_true_iff.mp ((Bool.and_eq_true_iff.mp ((Bool.and_eq_true_iff.mp ((Bool.and_eq_true_iff.mp (xgr_48)).2)).2)).2)).2)).2)).2)).2
set_option maxRecDepth 1000000 in
theorem xgr_56 : (xok (nI 56) [] [] [] [] [] && (xok (nI 57) [] [] [] [] [] && (xok (nI 58) [] [] [] [] [] && (xok (nI 59) [] [] [] [] [] && (xok (nI 60) [] [] [] [] [] && (xok (nI 61) [] [] [] [] [] && (xok (nI 62) [] [] [] [] [] && (xok (nI 63) [] [] [] [] [])))))))) = true := by decide +kernel
theorem xok_56 : xok (nI 56) [] [] [] [] [] = true := (Bool.and_eq_true_iff.mp (xgr_56)).1
theorem xok_57 : xok (nI 57) [] [] [] [] [] = true := (Bool.and_eq_true_iff.mp ((Bool.and_eq_true_iff.mp (xgr_56)).2)).1
theorem xok_58 : xok (nI 58) [] [] [] [] [] = true := (Bool.and_eq_true_iff.mp ((Bool.and_eq_true_iff.mp ((Bool.and_eq_true_iff.mp (xgr_56)).2)).2)).1
theorem xok_59 : xok (nI 59) [] [] [] [] [] = true := (Bool.and_eq_true_iff.mp ((Bool.and_eq_true_iff.mp ((Bool.and_eq_true_iff.mp ((Bool.and_eq_true_iff.mp (xgr_56)).2)).2)).2)).1
theorem xok_60 : xok (nI 60) [] [] [] [] [] = true := (Bool.and_eq_true_iff.mp ((Bool.and_eq_true_iff.mp ((Bool.and_eq_true_iff.mp ((Bool.and_eq_true_iff.mp ((Bool.and_eq_true_iff.mp (xgr_56)).2)).2)).2)).2)).1
theorem xok_61 : xok (nI 61) [] [] [] [] [] = true := (Bool.and_eq_true_iff.mp ((Bool.and_eq_true_iff.mp ((Bool.and_eq_true_iff.mp ((Bool.and_eq_true_iff.mp ((Bool.and_eq_true_iff.mp ((Bool.and_eq_true_iff.mp (xgr_56)).2)).2)).2)).2)).2)).1
theorem xok_62 : xok (nI 62) [] [] [] [] [] = true := (Bool.and_eq_true_iff.mp ((Bool.and_eq_true_iff.mp ((Bool.and_eq_true_iff.mp ((Bool.and_eq_true_iff.mp ((Bool.and_eq_true_iff.mp ((Bool.and_eq_true_iff.mp ((Bool.and_eq_true_iff.mp (xgr_56)).2)).2)).2)).2)).2)).2)).1
theorem xok_63 : xok (nI 63) [] [] [] [] [] = true := (Bool.and_eq_true_iff.mp ((Bool.and_eq_true_iff.mp ((Bool.and_eq_true_iff.mp ((Bool.and_eq_true_iff.mp ((Bool.and_eq_true_iff.mp ((Bool.and_eq_true_iff.mp ((Bool.and_eq_true_iff.mp (xgr_56)).2)).2)).2)).2)).2)).2)).2
