theorem gf_2_0 : gfOK 2 0 = true := by decide +kernel
theorem gf_2_1 : gfOK 2 1 = true := by decide +kernel
theorem gf_2_2 : gfOK 2 2 = true := by decide +kernel
theorem gf_2_3 : gfOK 2 3 = true := by decide +kernel
theorem gf_2_4 : gfOK 2 4 = true := by decide +kernel
theorem pf_1_197 : pfOK 1 197 = true := by decide +kernel
theorem pf_2_196 : pfOK 2 196 = true := by decide +kernel
def xm_X2_undo : List xbT := [(0, vb_X2_undo_0, some 60), (60, vb_X2_undo_60, some 79), (79, vb_X2_undo_79, some 87), (87, vb_X2_undo_87, some 108), (108, vb_X2_undo_108, some 127), (127, vb_X2_undo_127, some 138), (138, vb_X2_undo_138, some 149), (149, vb_X2_undo_149, some 160), (160, vb_X2_undo_160, some 179), (179, vb_X2_undo_179, some 190), (190, vb_X2_undo_190, some 209), (209, vb_X2_undo_209, some 243), (243, vb_X2_undo_243, none)]
theorem xc_X2_undo : xOK kd_X2_undo xm_X2_undo := ⟨ve_X2_undo_0, ve_X2_undo_60, ve_X2_undo_79, ve_X2_undo_87, ve_X2_undo_108, ve_X2_undo_127, ve_X2_undo_138, ve_X2_undo_149, ve_X2_undo_160, ve_X2_undo_179, ve_X2_undo_190, ve_X2_undo_209, ve_X2_undo_243, trivial⟩
theorem xa_X2_undo : xm_X2_undo.all (fun q => aOKb q.2.1 && !q.2.1.isEmpty) = true := by decide +kernel
theorem xw_X2_undo_0 {E : xE} {res : xR} {N : Nat} {hd : List Nat} {C : xCT} {k : Nat} {L : List Int} {st : List pv} {H : PH} : xW E res N kd_X2_undo xm_X2_undo hd C (k + 1) 0 L st H = xB (fun t L st H => if t ∈ hd then xJ E res N kd_X2_undo t L st H else xW E res N kd_X2_undo xm_X2_undo hd C k t L st H) (REPR E res) C (some 60) vb_X2_undo_0 0 L st H := Eq.trans rfl rfl
theorem xw_X2_undo_60 {E : xE} {res : xR} {N : Nat} {hd : List Nat} {C : xCT} {k : Nat} {L : List Int} {st : List pv} {H : PH} : xW E res N kd_X2_undo xm_X2_undo hd C (k + 1) 60 L st H = xB (fun t L st H => if t ∈ hd then xJ E res N kd_X2_undo t L st H else xW E res N kd_X2_undo xm_X2_undo hd C k t L st H) (REPR E res) C (some 79) vb_X2_undo_60 60 L st H := Eq.trans rfl rfl
theorem xw_X2_undo_79 {E : xE} {res : xR} {N : Nat} {hd : List Nat} {C : xCT} {k : Nat} {L : List Int} {st : List pv} {H : PH} : xW E res N kd_X2_undo xm_X2_undo hd C (k + 1) 79 L st H = xB (fun t L st H => if t ∈ hd then xJ E res N kd_X2_undo t L st H else xW E res N kd_X2_undo xm_X2_undo hd C k t L st H) (REPR E res) C (some 87) vb_X2_undo_79 79 L st H := Eq.trans rfl rfl
theorem xw_X2_undo_87 {E : xE} {res : xR} {N : Nat} {hd : List Nat} {C : xCT} {k : Nat} {L : List Int} {st : List pv} {H : PH} : xW E res N kd_X2_undo xm_X2_undo hd C (k + 1) 87 L st H = xB (fun t L st H => if t ∈ hd then xJ E res N kd_X2_undo t L st H else xW E res N kd_X2_undo xm_X2_undo hd C k t L st H) (REPR E res) C (some 108) vb_X2_undo_87 87 L st H := Eq.trans rfl rfl
theorem xw_X2_undo_108 {E : xE} {res : xR} {N : Nat} {hd : List Nat} {C : xCT} {k : Nat} {L : List Int} {st : List pv} {H : PH} : xW E res N kd_X2_undo xm_X2_undo hd C (k + 1) 108 L st H = xB (fun t L st H => if t ∈ hd then xJ E res N kd_X2_undo t L st H else xW E res N kd_X2_undo xm_X2_undo hd C k t L st H) (REPR E res) C (some 127) vb_X2_undo_108 108 L st H := Eq.trans rfl rfl
theorem xw_X2_undo_127 {E : xE} {res : xR} {N : Nat} {hd : List Nat} {C : xCT} {k : Nat} {L : List Int} {st : List pv} {H : PH} : xW E res N kd_X2_undo xm_X2_undo hd C (k + 1) 127 L st H = xB (fun t L st H => if t ∈ hd then xJ E res N kd_X2_undo t L st H else xW E res N kd_X2_undo xm_X2_undo hd C k t L st H) (REPR E res) C (some 138) vb_X2_undo_127 127 L st H := Eq.trans rfl rfl
theorem xw_X2_undo_138 {E : xE} {res : xR} {N : Nat} {hd : List Nat} {C : xCT} {k : Nat} {L : List Int} {st : List pv} {H : PH} : xW E res N kd_X2_undo xm_X2_undo hd C (k + 1) 138 L st H = xB (fun t L st H => if t ∈ hd then xJ E res N kd_X2_undo t L st H else xW E res N kd_X2_undo xm_X2_undo hd C k t L st H) (REPR E res) C (some 149) vb_X2_undo_138 138 L st H := Eq.trans rfl rfl
theorem xw_X2_undo_149 {E : xE} {res : xR} {N : Nat} {hd : List Nat} {C : xCT} {k : Nat} {L : List Int} {st : List pv} {H : PH} : xW E res N kd_X2_undo xm_X2_undo hd C (k + 1) 149 L st H = xB (fun t L st H => if t ∈ hd then xJ E res N kd_X2_undo t L st H else xW E res N kd_X2_undo xm_X2_undo hd C k t L st H) (REPR E res) C (some 160) vb_X2_undo_149 149 L st H := Eq.trans rfl rfl
theorem xw_X2_undo_160 {E : xE} {res : xR} {N : Nat} {hd : List Nat} {C : xCT} {k : Nat} {L : List Int} {st : List pv} {H : PH} : xW E res N kd_X2_undo xm_X2_undo hd C (k + 1) 160 L st H = xB (fun t L st H => if t ∈ hd then xJ E res N kd_X2_undo t L st H else xW E res N kd_X2_undo xm_X2_undo hd C k t L st H) (REPR E res) C (some 179) vb_X2_undo_160 160 L st H := Eq.trans rfl rfl
theorem xw_X2_undo_179 {E : xE} {res : xR} {N : Nat} {hd : List Nat} {C : xCT} {k : Nat} {L : List Int} {st : List pv} {H : PH} : xW E res N kd_X2_undo xm_X2_undo hd C (k + 1) 179 L st H = xB (fun t L st H => if t ∈ hd then xJ E res N kd_X2_undo t L st H else xW E res N kd_X2_undo xm_X2_undo hd C k t L st H) (REPR E res) C (some 190) vb_X2_undo_179 179 L st H := Eq.trans rfl rfl
theorem xw_X2_undo_190 {E : xE} {res : xR} {N : Nat} {hd : List Nat} {C : xCT} {k : Nat} {L : List Int} {st : List pv} {H : PH} : xW E res N kd_X2_undo xm_X2_undo hd C (k + 1) 190 L st H = xB (fun t L st H => if t ∈ hd then xJ E res N kd_X2_undo t L st H else xW E res N kd_X2_undo xm_X2_undo hd C k t L st H) (REPR E res) C (some 209) vb_X2_undo_190 190 L st H := Eq.trans rfl rfl
theorem xw_X2_undo_209 {E : xE} {res : xR} {N : Nat} {hd : List Nat} {C : xCT} {k : Nat} {L : List Int} {st : List pv} {H : PH} : xW E res N kd_X2_undo xm_X2_undo hd C (k + 1) 209 L st H = xB (fun t L st H => if t ∈ hd then xJ E res N kd_X2_undo t L st H else xW E res N kd_X2_undo xm_X2_undo hd C k t L st H) (REPR E res) C (some 243) vb_X2_undo_209 209 L st H := Eq.trans rfl rfl
theorem xw_X2_undo_243 {E : xE} {res : xR} {N : Nat} {hd : List Nat} {C : xCT} {k : Nat} {L : List Int} {st : List pv} {H : PH} : xW E res N kd_X2_undo xm_X2_undo hd C (k + 1) 243 L st H = xB (fun t L st H => if t ∈ hd then xJ E res N kd_X2_undo t L st H else xW E res N kd_X2_undo xm_X2_undo hd C k t L st H) (REPR E res) C (none) vb_X2_undo_243 243 L st H := Eq.trans rfl rfl
def xm_X2_swapLaw : List xbT := [(0, vb_X2_swapLaw_0, none)]
theorem xc_X2_swapLaw : xOK kd_X2_swapLaw xm_X2_swapLaw := ⟨ve_X2_swapLaw_0, trivial⟩
theorem xa_X2_swapLaw : xm_X2_swapLaw.all (fun q => aOKb q.2.1 && !q.2.1.isEmpty) = true := by decide +kernel
theorem xw_X2_swapLaw_0 {E : xE} {res : xR} {N : Nat} {hd : List Nat} {C : xCT} {k : Nat} {L : List Int} {st : List pv} {H : PH} : xW E res N kd_X2_swapLaw xm_X2_swapLaw hd C (k + 1) 0 L st H = xB (fun t L st H => if t ∈ hd then xJ E res N kd_X2_swapLaw t L st H else xW E res N kd_X2_swapLaw xm_X2_swapLaw hd C k t L st H) (REPR E res) C (none) vb_X2_swapLaw_0 0 L st H := Eq.trans rfl rfl
def xm_X1_putBack : List xbT := [(0, vb_X1_putBack_0, some 11), (11, vb_X1_putBack_11, some 27), (27, vb_X1_putBack_27, some 55), (55, vb_X1_putBack_55, none)]
theorem xc_X1_putBack : xOK kd_X1_putBack xm_X1_putBack := ⟨ve_X1_putBack_0, ve_X1_putBack_11, ve_X1_putBack_27, ve_X1_putBack_55, trivial⟩
theorem xa_X1_putBack : xm_X1_putBack.all (fun q => aOKb q.2.1 && !q.2.1.isEmpty) = true := by decide +kernel
theorem xw_X1_putBack_0 {E : xE} {res : xR} {N : Nat} {hd : List Nat} {C : xCT} {k : Nat} {L : List Int} {st : List pv} {H : PH} : xW E res N kd_X1_putBack xm_X1_putBack hd C (k + 1) 0 L st H = xB (fun t L st H => if t ∈ hd then xJ E res N kd_X1_putBack t L st H else xW E res N kd_X1_putBack xm_X1_putBack hd C k t L st H) (REPR E res) C (some 11) vb_X1_putBack_0 0 L st H := Eq.trans rfl rfl
theorem xw_X1_putBack_11 {E : xE} {res : xR} {N : Nat} {hd : List Nat} {C : xCT} {k : Nat} {L : List Int} {st : List pv} {H : PH} : xW E res N kd_X1_putBack xm_X1_putBack hd C (k + 1) 11 L st H = xB (fun t L st H => if t ∈ hd then xJ E res N kd_X1_putBack t L st H else xW E res N kd_X1_putBack xm_X1_putBack hd C k t L st H) (REPR E res) C (some 27) vb_X1_putBack_11 11 L st H := Eq.trans rfl rfl
theorem xw_X1_putBack_27 {E : xE} {res : xR} {N : Nat} {hd : List Nat} {C : xCT} {k : Nat} {L : List Int} {st : List pv} {H : PH} : xW E res N kd_X1_putBack xm_X1_putBack hd C (k + 1) 27 L st H = xB (fun t L st H => if t ∈ hd then xJ E res N kd_X1_putBack t L st H else xW E res N kd_X1_putBack xm_X1_putBack hd C k t L st H) (REPR E res) C (some 55) vb_X1_putBack_27 27 L st H := Eq.trans rfl rfl
theorem xw_X1_putBack_55 {E : xE} {res : xR} {N : Nat} {hd : List Nat} {C : xCT} {k : Nat} {L : List Int} {st : List pv} {H : PH} : xW E res N kd_X1_putBack xm_X1_putBack hd C (k + 1) 55 L st H = xB (fun t L st H => if t ∈ hd then xJ E res N kd_X1_putBack t L st H else xW E res N kd_X1_putBack xm_X1_putBack hd C k t L st H) (REPR E res) C (none) vb_X1_putBack_55 55 L st H := Eq.trans rfl rfl
def xm_X11_back : List xbT := [(0, vb_X11_back_0, some 9), (9, vb_X11_back_9, some 38), (38, vb_X11_back_38, some 44), (44, vb_X11_back_44, none)]
theorem xc_X11_back : xOK kd_X11_back xm_X11_back := ⟨ve_X11_back_0, ve_X11_back_9, ve_X11_back_38, ve_X11_back_44, trivial⟩
theorem xa_X11_back : xm_X11_back.all (fun q => aOKb q.2.1 && !q.2.1.isEmpty) = true := by decide +kernel
theorem xw_X11_back_0 {E : xE} {res : xR} {N : Nat} {hd : List Nat} {C : xCT} {k : Nat} {L : List Int} {st : List pv} {H : PH} : xW E res N kd_X11_back xm_X11_back hd C (k + 1) 0 L st H = xB (fun t L st H => if t ∈ hd then xJ E res N kd_X11_back t L st H else xW E res N kd_X11_back xm_X11_back hd C k t L st H) (REPR E res) C (some 9) vb_X11_back_0 0 L st H := Eq.trans rfl rfl
theorem xw_X11_back_9 {E : xE} {res : xR} {N : Nat} {hd : List Nat} {C : xCT} {k : Nat} {L : List Int} {st : List pv} {H : PH} : xW E res N kd_X11_back xm_X11_back hd C (k + 1) 9 L st H = xB (fun t L st H => if t ∈ hd then xJ E res N kd_X11_back t L st H else xW E res N kd_X11_back xm_X11_back hd C k t L st H) (REPR E res) C (some 38) vb_X11_back_9 9 L st H := Eq.trans rfl rfl
theorem xw_X11_back_38 {E : xE} {res : xR} {N : Nat} {hd : List Nat} {C : xCT} {k : Nat} {L : List Int} {st : List pv} {H : PH} : xW E res N kd_X11_back xm_X11_back hd C (k + 1) 38 L st H = xB (fun t L st H => if t ∈ hd then xJ E res N kd_X11_back t L st H else xW E res N kd_X11_back xm_X11_back hd C k t L st H) (REPR E res) C (some 44) vb_X11_back_38 38 L st H := Eq.trans rfl rfl
theorem xw_X11_back_44 {E : xE} {res : xR} {N : Nat} {hd : List Nat} {C : xCT} {k : Nat} {L : List Int} {st : List pv} {H : PH} : xW E res N kd_X11_back xm_X11_back hd C (k + 1) 44 L st H = xB (fun t L st H => if t ∈ hd then xJ E res N kd_X11_back t L st H else xW E res N kd_X11_back xm_X11_back hd C k t L st H) (REPR E res) C (none) vb_X11_back_44 44 L st H := Eq.trans rfl rfl
/-! ===== a deed taken back ===== -/
theorem sw100_0 : ptsw 4 205 0 9 #[56, 75, 83, 104, 123, 134, 145, 156, 175, 186] 0 = some 60 := by decide +kernel
theorem sw100_1 : ptsw 4 205 0 9 #[56, 75, 83, 104, 123, 134, 145, 156, 175, 186] 1 = some 79 := by decide +kernel
theorem sw100_2 : ptsw 4 205 0 9 #[56, 75, 83, 104, 123, 134, 145, 156, 175, 186] 2 = some 87 := by decide +kernel
theorem sw100_3 : ptsw 4 205 0 9 #[56, 75, 83, 104, 123, 134, 145, 156, 175, 186] 3 = some 108 := by decide +kernel
theorem sw100_4 : ptsw 4 205 0 9 #[56, 75, 83, 104, 123, 134, 145, 156, 175, 186] 4 = some 127 := by decide +kernel
theorem sw100_5 : ptsw 4 205 0 9 #[56, 75, 83, 104, 123, 134, 145, 156, 175, 186] 5 = some 138 := by decide +kernel
theorem sw100_6 : ptsw 4 205 0 9 #[56, 75, 83, 104, 123, 134, 145, 156, 175, 186] 6 = some 149 := by decide +kernel
theorem sw100_7 : ptsw 4 205 0 9 #[56, 75, 83, 104, 123, 134, 145, 156, 175, 186] 7 = some 160 := by decide +kernel
theorem sw100_8 : ptsw 4 205 0 9 #[56, 75, 83, 104, 123, 134, 145, 156, 175, 186] 8 = some 179 := by decide +kernel
theorem sw100_9 : ptsw 4 205 0 9 #[56, 75, 83, 104, 123, 134, 145, 156, 175, 186] 9 = some 190 := by decide +kernel
theorem sw100_d : ptsw 4 205 0 9 #[56, 75, 83, 104, 123, 134, 145, 156, 175, 186] 10 = some 209 := by decide +kernel
theorem CI_num {H G : PH} {A B : Int → Int} (hB : MB A) (h11 : A 11 ≤ 60) (ci : CI H A) (hG : ∀ c, ¬ c = 1 → ¬ (57 ≤ c ∧ c ≤ 92) → G c = H c) (h0 : ∀ i, i = 2 ∨ i = 4 ∨ i = 5 → G 1 i = H 1 i) (f : ∀ i, i < 3 ∨ (10 ≤ i ∧ i < 92) ∨ 404 ≤ i → B i = A i) (hs : ∀ b, 0 ≤ b → b < A 0 → B (92 + 26 * b) = A (92 + 26 * b) ∧ ∀ i, 0 ≤ i → i < A (92 + 26 * b) → B (92 + 26 * b + 1 + i) = A (92 + 26 * b + 1 + i)) (h1 : B 3 = G 1 7 ∧ B 4 = G 1 8 ∧ B 5 = G 1 9 ∧ B 6 = G 1 11 ∧ B 7 = G 1 12 ∧ B 8 = G 1 10 ∧ B 9 = G 1 13) (h2 : ∀ b, 0 ≤ b → b < A 0 → BRr (57 + 3 * b) G B (92 + 26 * b)) : CI G B := CI_mk hB h11 ci f hs hG h0 h1 h2
theorem CI_set {H G : PH} {A B : Int → Int} (hB : MB A) (h11 : A 11 ≤ 60) (ci : CI H A) (hG : ∀ c, ¬ c = 1 → G c = H c) (h0 : ∀ i, i = 2 ∨ i = 4 ∨ i = 5 → G 1 i = H 1 i) (f : ∀ i, ¬ (3 ≤ i ∧ i ≤ 9) → B i = A i) (h1 : B 3 = G 1 7 ∧ B 4 = G 1 8 ∧ B 5 = G 1 9 ∧ B 6 = G 1 11 ∧ B 7 = G 1 12 ∧ B 8 = G 1 10 ∧ B 9 = G 1 13) : CI G B := by
  have a0 := hB.1
  refine CI_num hB h11 ci (fun c c1 _ => hG c c1) h0 (fun i hi => f i (by omega)) (fun m b0 b1 => ⟨f _ (by omega), fun i i0 i1 => f _ (by omega)⟩) h1 (fun m b0 b1 => ?_)
  have g := ci.1.2.1 m b0 b1
  have e13 := (hB.2.2.2.2.1 m b0 (by omega)).2
  have e6 := g.2.2.2.2.2.1
  exact BRr_set g (fun d d1 => hG d d1) (by omega) (fun j j0 j1 => f j (by omega)) (hB.2.2.2.1 m b0 (by omega)).2 (by omega)
theorem CI_bill {H G : PH} {A B : Int → Int} {u : Int} (hB : MB A) (h11 : A 11 ≤ 60) (ci : CI H A) (hu : 0 ≤ u ∧ u < A 0) (hG : ∀ c, ¬ c = 1 → ¬ c = 57 + 3 * u → ¬ c = 57 + 3 * u + 1 → ¬ c = 57 + 3 * u + 2 → G c = H c) (g1 : ∀ i, ¬ i = 13 → G 1 i = H 1 i) (f : ∀ i, ¬ (92 + 26 * u + 9 ≤ i ∧ i < 92 + 26 * u + 26) → ¬ i = 9 → B i = A i) (f9 : B 9 = G 1 13) (h2 : BRr (57 + 3 * u) G B (92 + 26 * u)) : CI G B := by
  have a0 := hB.1
  obtain ⟨s0, s1, s2, s3, s4, s5, s6, s7, s8, s9⟩ := id ci.1.1
  refine CI_num hB h11 ci (fun c c1 c2 => hG c c1 (by omega) (by omega) (by omega)) (fun i hi => g1 i (by omega)) (fun i hi => f i (by omega) (by omega)) (fun m b0 b1 => ?_) ?_ (fun m b0 b1 => ?_)
  · have := (hB.2.2.2.1 m b0 (by omega)).2
    exact ⟨f _ (by omega) (by omega), fun i i0 i1 => f _ (by omega) (by omega)⟩
  · rw [f 3 (by omega) (by decide), f 4 (by omega) (by decide), f 5 (by omega) (by decide), f 6 (by omega) (by decide), f 7 (by omega) (by decide), f 8 (by omega) (by decide), g1 7 (by decide), g1 8 (by decide), g1 9 (by decide), g1 11 (by decide), g1 12 (by decide), g1 10 (by decide)]
    exact ⟨s3, s4, s5, s6, s7, s8, f9⟩
  · by_cases e : m = u
    · rw [e]
      exact h2
    · have gn := ci.1.2.1 m b0 b1
      have e13 := (hB.2.2.2.2.1 m b0 (by omega)).2
      have e6 := gn.2.2.2.2.2.1
      exact BRr_same gn (hG _ (by omega) (by omega) (by omega) (by omega)) (hG _ (by omega) (by omega) (by omega) (by omega)) (hG _ (by omega) (by omega) (by omega) (by omega)) (fun j j0 j1 => f j (by omega) (by omega)) (hB.2.2.2.1 m b0 (by omega)).2 (by omega)
/-- what taking back leaves -/
def UP (H H' : PH) (l : Int) (C : Int → Int) : Prop := CI H' C ∧ CPr H' C ∧ LDA H' ∧ H' 0 = H 0 ∧ H' 213 = H 213 ∧ OF H H' ∧ ∀ m, 0 ≤ m → m < 20 → ¬ m = l → LGc H H' m
theorem CPr_row {H : PH} {A B : Int → Int} (hB : MB A) (h : CPr H A) (e : ∀ i, i = 1 ∨ (76 ≤ i ∧ i < 92) → B i = A i) : CPr H B := by
  have c1 := hB.2.1
  unfold CPr at h ⊢
  rw [e 1 (Or.inl rfl)]
  exact ⟨fun j j0 j1 => by rw [e _ (Or.inr ⟨by omega, by omega⟩), e _ (Or.inr ⟨by omega, by omega⟩)]; exact h.1 j j0 j1, h.2⟩
/-- numbers alone were changed -/
theorem UP_num {H G : PH} {l : Int} {A B C : Int → Int} (hB : MB A) (ld : LDA H) (cp : CPr H A) (ci : CI G B) (rq : REq B C) (e : ∀ i, i = 1 ∨ (76 ≤ i ∧ i < 92) → B i = A i) (hG : ∀ c, ¬ c = 1 → ¬ (57 ≤ c ∧ c ≤ 92) → G c = H c) (h0 : G 1 5 = H 1 5 ∧ G 1 6 = H 1 6) : UP H G l C := by
  have gl : GFL H G := GFL_of ld (by rw [hG 0 (by decide) (by decide)]; exact ⟨rfl, rfl⟩) (hG 47 (by decide) (by decide)) h0 (fun l l0 l1 => hG _ (by omega) (by omega)) (fun w hw => by
      have z := KWz hw
      rw [hG w (by omega) (by omega), hG (w + 1) (by omega) (by omega)]
      exact ⟨⟨rfl, rfl⟩, rfl⟩) (fun q hq _ => by
      have z := KL_in hq
      rw [hG q (by omega) (by omega), hG (q + 1) (by omega) (by omega)]
      exact ⟨rfl, rfl⟩)
  exact ⟨CI_EQ ci rq, CPr_EQ (CPr_row hB (CPr_fr (hG 42 (by decide) (by decide)) (hG 43 (by decide) (by decide)) cp) e) rq, LDA_fr gl.2.1 gl.2.2.1 ld (fun m m0 m1 => by rw [(gl.2.2.2 m m0 m1).1]; exact ⟨rfl, rfl⟩), hG 0 (by decide) (by decide), hG 213 (by decide) (by decide), ⟨fun c hc => hG c (by omega) (by omega), ⟨by rw [hG 0 (by decide) (by decide)], hG 589 (by decide) (by decide)⟩, hG 214 (by decide) (by decide)⟩, fun m m0 m1 _ => gl.2.2.2 m m0 m1⟩
/-- another law -/
theorem UP_law {H G : PH} {l : Int} {A C : Int → Int} (hl : 0 ≤ l ∧ l < 20) (hB : MB A) (ld : LDA H) (cp : CPr H A) (ci : CI H A) (h11 : C 11 ≤ 60) (lw : LWr (H (469 + 6 * l) 4) H C) (rq : REq (lwU A C) C) (hG : ∀ c i, ¬ (c = 1 ∧ i = 5) → ¬ (c = 469 + 6 * l ∧ i = 4) → G c i = H c i) (h5 : G 1 5 = H (469 + 6 * l) 4) (h4 : G (469 + 6 * l) 4 = H 1 5) : UP H G l C := by
  have gf : ∀ c, ¬ c = 1 → ¬ c = 469 + 6 * l → G c = H c := fun c c1 c2 => funext fun i => hG c i (fun w => c1 w.1) (fun w => c2 w.1)
  have g1 : ∀ i, ¬ i = 5 → G 1 i = H 1 i := fun i hi => hG 1 i (fun w => hi w.2) (fun w => by omega)
  have L0 : ∀ j, ¬ (10 ≤ j ∧ j < 76) → lwU A C j = A j := fun j hj => if_neg hj
  have L1 : ∀ j, 10 ≤ j → j < 76 → lwU A C j = C j := fun j j0 j1 => if_pos ⟨j0, j1⟩
  obtain ⟨⟨⟨s0, s1, s2, s3, s4, s5, s6, s7, s8, s9⟩, b1, b2, b3, b4⟩, gcr, ldi⟩ := id ci
  have a0 := hB.1
  have a1 := hB.2.1
  have a2 := hB.2.2.1
  have dc := DC hl.1 hl.2
  have gk : ∀ x, KW x ∨ KL x → G x = H x ∧ G (x + 1) = H (x + 1) := fun x hx => by
    rcases hx with hx | hx
    · have z := KWz hx
      exact ⟨gf x (by omega) (fun w => dc.2.2.2.1 (by rw [← w]; exact hx)), gf _ (by omega) (dc.2.2.2.2.2 x hx)⟩
    · have z := KL_in hx
      exact ⟨gf x (by omega) (fun w => dc.1 (by rw [← w]; exact hx)), gf _ (by omega) (dc.2.2.2.2.1 x hx)⟩
  have g47 : G 47 = H 47 := gf 47 (by decide) (by omega)
  have hA : ∀ x y, chA A x y = chA (lwU A C) x y := fun x y => chA_cp (L0 1 (by decide)).symm (fun i i0 i1 => ⟨(L0 _ (by omega)).symm, (L0 _ (by omega)).symm⟩) x y
  have ciG : CI G (lwU A C) := by
    refine ⟨⟨?_, fun x x0 x1 => ?_, fun k k0 k1 => ?_, fun x y x0 x1 y0 y1 => ?_, ?_⟩, fun k k0 k1 => ?_, ?_⟩
    · rw [L0 0 (by decide), L0 1 (by decide), L0 2 (by decide), L0 3 (by decide), L0 4 (by decide), L0 5 (by decide), L0 6 (by decide), L0 7 (by decide), L0 8 (by decide), L0 9 (by decide), gf 2 (by decide) (by omega), g1 2 (by decide), g1 4 (by decide), g1 7 (by decide), g1 8 (by decide), g1 9 (by decide), g1 11 (by decide), g1 12 (by decide), g1 10 (by decide), g1 13 (by decide)]
      exact ⟨s0, s1, s2, s3, s4, s5, s6, s7, s8, s9⟩
    · rw [L0 0 (by decide)] at x1
      have g := b1 x x0 x1
      have v6 := hB.2.2.2.2.1 x x0 (by omega)
      have v8 := hB.2.2.2.1 x x0 (by omega)
      have e6 := g.2.2.2.2.2.1
      exact BRr_same g (gf _ (by omega) (by omega)) (gf _ (by omega) (by omega)) (gf _ (by omega) (by omega)) (fun j j0 j1 => L0 j (by omega)) v8.2 (by omega)
    · rw [L0 2 (by decide)] at k1
      have g := b2 k k0 k1
      have v8 := hB.2.2.2.2.2.1 k k0 (by omega)
      have g := LNr_EQ g (EL_out (B := lwU A C) (fun i i0 i1 => (L0 i (by omega)).symm) v8.2)
      unfold LNr at g ⊢
      rw [g47, (gk _ (Or.inr (ldi.1 k k0 (by omega)))).1]
      exact g
    · rw [gf _ (by omega) (by omega), b3 x y x0 x1 y0 y1]
      exact hA _ _
    · obtain ⟨w0, w1, w2, w3⟩ := lw
      unfold LWr
      rw [h5, (gk _ (Or.inl w0)).1, (gk _ (Or.inl w0)).2, L1 10 (by decide) (by decide), L1 11 (by decide) (by decide)]
      exact ⟨w0, w1, w2, fun j j0 j1 => by rw [L1 (12 + j) (by omega) (by omega)]; exact w3 j j0 j1⟩
    · rw [L0 2 (by decide)] at k1
      have g := gcr k k0 k1
      have v8 := hB.2.2.2.2.2.1 k k0 (by omega)
      have kq := gk _ (Or.inr (ldi.1 k k0 (by omega)))
      rw [g47, kq.1, kq.2, L0 0 (by decide)]
      refine ⟨g.1, fun x x0 x1 x2 => ?_⟩
      rw [g.2 x x0 x1 x2]
      have vb := hB.2.2.2.1 x x0 (by omega)
      have vr := hB.2.2.2.2.1 x x0 (by omega)
      exact lapA_EQ hA vb.1 (EB_out (fun i i0 i1 => (L0 _ (by omega)).symm) vb.2 vr.2) (EL_out (fun i i0 i1 => (L0 i (by omega)).symm) v8.2)
    · unfold LDi
      rw [g47]
      exact ldi
  have Gl : ∀ m, 0 ≤ m → m < 20 → ¬ m = l → G (469 + 6 * m) = H (469 + 6 * m) := fun m m0 m1 ne => gf _ (by omega) (by omega)
  have G4 : ∀ m, 0 ≤ m → m < 20 → G (469 + 6 * m) 4 = if m = l then H 1 5 else H (469 + 6 * m) 4 := fun m m0 m1 => by
    by_cases e : m = l
    · rw [e, h4, if_pos rfl]
    · rw [if_neg e, Gl m m0 m1 e]
  have G5 : ∀ m, 0 ≤ m → m < 20 → G (469 + 6 * m) 5 = H (469 + 6 * m) 5 := fun m m0 m1 => hG _ _ (fun w => by omega) (fun w => by omega)
  have ldG : LDA G := by
    obtain ⟨d1, d2, d3, d4, d5, d6, d7⟩ := ld
    refine ⟨ciG.2.2, fun m m0 m1 => ?_, ?_, fun m m0 m1 => ?_, fun i j i0 i1 j0 j1 w => ?_, fun m k m0 m1 k0 k1 => by rw [G5 m m0 m1, g47]; exact d6 m k m0 m1 k0 k1, fun i j i0 i1 j0 j1 w => ?_⟩
    · rw [G4 m m0 m1, G5 m m0 m1]
      refine ⟨?_, (d2 m m0 m1).2⟩
      split
      · exact d3.1
      · exact (d2 m m0 m1).1
    · rw [h5, g1 6 (by decide)]
      exact ⟨(d2 l hl.1 hl.2).1, d3.2.1, (d4 l hl.1 hl.2).2⟩
    · rw [G4 m m0 m1, h5, g1 6 (by decide)]
      by_cases e : m = l
      · rw [if_pos e]
        exact ⟨fun w => (d4 l hl.1 hl.2).1 w.symm, d3.2.2⟩
      · rw [if_neg e]
        exact ⟨fun w => e (d5 m l m0 m1 hl.1 hl.2 w), (d4 m m0 m1).2⟩
    · rw [G4 i i0 i1, G4 j j0 j1] at w
      by_cases e : i = l
      · by_cases p : j = l
        · rw [e, p]
        · rw [if_pos e, if_neg p] at w
          exact ((d4 j j0 j1).1 w.symm).elim
      · by_cases p : j = l
        · rw [if_neg e, if_pos p] at w
          exact ((d4 i i0 i1).1 w).elim
        · rw [if_neg e, if_neg p] at w
          exact d5 i j i0 i1 j0 j1 w
    · rw [G5 i i0 i1, G5 j j0 j1] at w
      exact d7 i j i0 i1 j0 j1 w
  refine ⟨CI_EQ ciG rq, CPr_EQ (CPr_row hB (CPr_fr (gf 42 (by decide) (by omega)) (gf 43 (by decide) (by omega)) cp) (fun i hi => L0 i (by omega))) rq, ldG, gf 0 (by decide) (by omega), gf 213 (by decide) (by omega), ⟨fun c hc => gf c (by omega) (by omega), ⟨hG _ _ (by omega) (by omega), gf 589 (by decide) (by omega)⟩, gf 214 (by decide) (by omega)⟩, fun m m0 m1 ne => ?_⟩
  have kk := ld.2.1 m m0 m1
  have c1 := gk _ (Or.inl kk.1)
  have c2 := gk _ (Or.inr kk.2)
  exact ⟨Gl m m0 m1 ne, by rw [c1.1]; exact ⟨rfl, rfl⟩, c1.2, c2.1, c2.2⟩
