theorem ev_19 : zlawM (zGs 19) = true := by decide +kernel
theorem ev_20 : zlawM (zGs 20) = true := by decide +kernel
theorem ev_21 : zlawM (zGs 21) = true := by decide +kernel
theorem ev_30 : zlawM (zGs 30) = true := by decide +kernel
theorem ev_31 : zlawM (zGs 31) = true := by decide +kernel
