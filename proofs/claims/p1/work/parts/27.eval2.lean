theorem ev_2 : zlawM (zGs 2) = true := by decide +kernel
theorem ev_15 : zlawM (zGs 15) = true := by decide +kernel
theorem ev_22_0 : zlawM (((zGs 22).drop 0).take 1) = true := by decide +kernel
theorem ev_22_1 : zlawM (((zGs 22).drop 1).take 1) = true := by decide +kernel
theorem ev_22_2 : zlawM (((zGs 22).drop 2).take 1) = true := by decide +kernel
