theorem ev_13_0 : zlawM (((zGs 13).drop 0).take 1) = true := by decide +kernel
theorem ev_13_1 : zlawM (((zGs 13).drop 1).take 1) = true := by decide +kernel
theorem ev_13_2 : zlawM (((zGs 13).drop 2).take 1) = true := by decide +kernel
theorem ev_13_3 : zlawM (((zGs 13).drop 3).take 1) = true := by decide +kernel
