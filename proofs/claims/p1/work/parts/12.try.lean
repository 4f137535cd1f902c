set_option maxRecDepth 1000000 in
theorem xl_0 : xe_law [] none [] = true := by decide +kernel
