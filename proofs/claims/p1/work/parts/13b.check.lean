set_option maxRecDepth 1000000 in
theorem xok_32 : xok (nI 32) [(-1, 0), (3, 4)] [] [] [] [] = true := by decide +kernel
set_option maxRecDepth 1000000 in
theorem xok_33 : xok (nI 33) [(0, 1), (3, 4)] [] [] [] [] = true := by decide +kernel
set_option maxRecDepth 1000000 in
theorem xok_34 : xok (nI 34) [(-1, 0)] [] [] [] [] = true := by decide +kernel
set_option maxRecDepth 1000000 in
theorem xok_35 : xok (nI 35) [(-1, 0)] [] [] [] [] = true := by decide +kernel
set_option maxRecDepth 1000000 in
theorem xok_36 : xok (nI 36) [(0, 1), (20, 21)] [(0, 1), (2147483646, 2147483647)] [] [] [] = true := by decide +kernel
set_option maxRecDepth 1000000 in
theorem xok_37 : xok (nI 37) [] [] [] [] [] = true := by decide +kernel
set_option maxRecDepth 1000000 in
theorem xok_38 : xok (nI 38) [] [] [] [] [] = true := by decide +kernel
set_option maxRecDepth 1000000 in
theorem xok_39 : xok (nI 39) [] [] [] [] [] = true := by decide +kernel
set_option maxRecDepth 1000000 in
theorem xok_40 : xok (nI 40) [(-1, 0), (0, 1), (1, 2), (2, 3), (3, 4), (4, 5), (5, 6), (6, 7), (7, 8), (8, 9)] [] [] [] [] = true := by decide +kernel
set_option maxRecDepth 1000000 in
theorem xok_41 : xok (nI 41) [] [] [] [] [] = true := by decide +kernel
set_option maxRecDepth 1000000 in
theorem xok_42 : xok (nI 42) [(0, 1), (1, 2), (2, 3), (3, 4), (4, 5), (5, 6)] [] [] [] [] = true := by decide +kernel
set_option maxRecDepth 1000000 in
theorem xok_43 : xok (nI 43) [] [] [] [] [] = true := by decide +kernel
set_option maxRecDepth 1000000 in
theorem xok_44 : xok (nI 44) [] [] [] [] [] = true := by decide +kernel
set_option maxRecDepth 1000000 in
theorem xok_45 : xok (nI 45) [] [] [] [] [] = true := by decide +kernel
set_option maxRecDepth 1000000 in
theorem xok_46 : xok (nI 46) [] [] [] [] [] = true := by decide +kernel
set_option maxRecDepth 1000000 in
theorem xok_47 : xok (nI 47) [] [] [] [] [] = true := by decide +kernel
set_option maxRecDepth 1000000 in
theorem xok_48 : xok (nI 48) [] [] [] [] [] = true := by decide +kernel
set_option maxRecDepth 1000000 in
theorem xok_49 : xok (nI 49) [] [] [] [] [] = true := by decide +kernel
set_option maxRecDepth 1000000 in
theorem xok_50 : xok (nI 50) [] [] [] [] [] = true := by decide +kernel
set_option maxRecDepth 1000000 in
theorem xok_51 : xok (nI 51) [] [] [] [] [] = true := by decide +kernel
set_option maxRecDepth 1000000 in
theorem xok_52 : xok (nI 52) [] [] [] [] [] = true := by decide +kernel
set_option maxRecDepth 1000000 in
theorem xok_53 : xok (nI 53) [] [] [] [] [] = true := by decide +kernel
set_option maxRecDepth 1000000 in
theorem xok_54 : xok (nI 54) [] [] [] [] [] = true := by decide +kernel
set_option maxRecDepth 1000000 in
theorem xok_55 : xok (nI 55) [] [] [] [] [] = true := by decide +kernel
set_option maxRecDepth 1000000 in
theorem xok_56 : xok (nI 56) [] [] [] [] [] = true := by decide +kernel
set_option maxRecDepth 1000000 in
theorem xok_57 : xok (nI 57) [] [] [] [] [] = true := by decide +kernel
set_option maxRecDepth 1000000 in
theorem xok_58 : xok (nI 58) [] [] [] [] [] = true := by decide +kernel
set_option maxRecDepth 1000000 in
theorem xok_59 : xok (nI 59) [] [] [] [] [] = true := by decide +kernel
set_option maxRecDepth 1000000 in
theorem xok_60 : xok (nI 60) [] [] [] [] [] = true := by decide +kernel
set_option maxRecDepth 1000000 in
theorem xok_61 : xok (nI 61) [] [] [] [] [] = true := by decide +kernel
set_option maxRecDepth 1000000 in
theorem xok_62 : xok (nI 62) [] [] [] [] [] = true := by decide +kernel
set_option maxRecDepth 1000000 in
theorem xok_63 : xok (nI 63) [] [] [] [] [] = true := by decide +kernel
