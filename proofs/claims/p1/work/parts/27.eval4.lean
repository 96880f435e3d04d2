theorem ev_11_0 : zlawM (((zGs 11).drop 0).take 1) = true := by decide +kernel
theorem ev_11_1 : zlawM (((zGs 11).drop 1).take 1) = true := by decide +kernel
theorem ev_11_2 : zlawM (((zGs 11).drop 2).take 1) = true := by decide +kernel
theorem ev_11_3 : zlawM (((zGs 11).drop 3).take 1) = true := by decide +kernel
theorem ev_11_4 : zlawM (((zGs 11).drop 4).take 1) = true := by decide +kernel
theorem ev_11_5 : zlawM (((zGs 11).drop 5).take 1) = true := by decide +kernel
