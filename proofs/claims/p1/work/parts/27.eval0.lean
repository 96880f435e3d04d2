theorem ev_S : zlawM ((some (za 40 63 0), some 6, [za zlo zhi 1]) :: [0, 1, 2, 3, 4, 5].map (fun L => (none, some L, []))) = true := by decide +kernel
theorem ev_a : zlawM ([0, 1, 3, 4, 5, 6, 7, 8, 9, 10].flatMap zGs) = true := by decide +kernel
theorem ev_b : zlawM ([12, 16, 17, 18, 23, 24, 25, 26].flatMap zGs) = true := by decide +kernel
theorem ev_c : zlawM ([27, 28, 29, 32, 33, 34, 35, 36, 37, 38, 39].flatMap zGs) = true := by decide +kernel
