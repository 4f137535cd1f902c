set_option maxRecDepth 1000000 in
theorem xok_4 : xok (nI 4) [(-1, 0), (0, 1), (1, 2), (2, 3), (3, 4), (4, 5), (5, 6)] [] [(-1, 0), (0, 1), (1, 2), (2, 3), (3, 4), (4, 5), (5, 6)] [] [(-1, 0)] = true := by decide +kernel
set_option maxRecDepth 1000000 in
theorem xok_23 : xok (nI 23) [(-1, 0), (0, 1), (1, 2), (2, 3), (3, 4), (4, 5), (5, 6)] [(-1, 0), (0, 1), (1, 2), (2, 3), (3, 4), (4, 5), (5, 6)] [] [] [] = true := by decide +kernel
set_option maxRecDepth 1000000 in
theorem xok_27 : xok (nI 27) [(-1, 0), (0, 1), (1, 2), (2, 3), (3, 4), (4, 5), (5, 6)] [(-1, 0), (0, 1), (1, 2), (2, 3), (3, 4), (4, 5), (5, 6)] [] [] [] = true := by decide +kernel
set_option maxRecDepth 1000000 in
theorem xok_28 : xok (nI 28) [(-1, 0), (0, 1), (1, 2), (2, 3), (3, 4), (4, 5), (5, 6)] [(-1, 0), (0, 1), (1, 2), (2, 3), (3, 4), (4, 5), (5, 6)] [] [] [] = true := by decide +kernel
