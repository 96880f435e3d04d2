theorem ev_14_0 : zlawM (((zGs 14).drop 0).take 1) = true := by decide +kernel
theorem ev_14_1 : zlawM (((zGs 14).drop 1).take 1) = true := by decide +kernel
theorem ev_14_2 : zlawM (((zGs 14).drop 2).take 1) = true := by decide +kernel
theorem ev_14_3 : zlawM (((zGs 14).drop 3).take 1) = true := by decide +kernel
