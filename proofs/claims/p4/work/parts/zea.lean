theorem gf_12_35 : gfOK 12 35 = true := by decide +kernel
theorem gf_12_36 : gfOK 12 36 = true := by decide +kernel
theorem gf_12_39 : gfOK 12 39 = true := by decide +kernel
theorem gf_12_40 : gfOK 12 40 = true := by decide +kernel
theorem pf_12_39 : pfOK 12 39 = true := by decide +kernel
theorem pf_12_40 : pfOK 12 40 = true := by decide +kernel
def xm_X12_layHold : List xbT := [(0, vb_X12_layHold_0, some 12), (12, vb_X12_layHold_12, some 40), (40, vb_X12_layHold_40, some 77), (77, vb_X12_layHold_77, some 97), (97, vb_X12_layHold_97, some 103), (103, vb_X12_layHold_103, none)]
theorem xc_X12_layHold : xOK kd_X12_layHold xm_X12_layHold := ⟨ve_X12_layHold_0, ve_X12_layHold_12, ve_X12_layHold_40, ve_X12_layHold_77, ve_X12_layHold_97, ve_X12_layHold_103, trivial⟩
theorem xa_X12_layHold : xm_X12_layHold.all (fun q => aOKb q.2.1 && !q.2.1.isEmpty) = true := by decide +kernel
theorem xw_X12_layHold_0 {E : xE} {res : xR} {N : Nat} {hd : List Nat} {C : xCT} {k : Nat} {L : List Int} {st : List pv} {H : PH} : xW E res N kd_X12_layHold xm_X12_layHold hd C (k + 1) 0 L st H = xB (fun t L st H => if t ∈ hd then xJ E res N kd_X12_layHold t L st H else xW E res N kd_X12_layHold xm_X12_layHold hd C k t L st H) (REPR E res) C (some 12) vb_X12_layHold_0 0 L st H := Eq.trans rfl rfl
theorem xw_X12_layHold_12 {E : xE} {res : xR} {N : Nat} {hd : List Nat} {C : xCT} {k : Nat} {L : List Int} {st : List pv} {H : PH} : xW E res N kd_X12_layHold xm_X12_layHold hd C (k + 1) 12 L st H = xB (fun t L st H => if t ∈ hd then xJ E res N kd_X12_layHold t L st H else xW E res N kd_X12_layHold xm_X12_layHold hd C k t L st H) (REPR E res) C (some 40) vb_X12_layHold_12 12 L st H := Eq.trans rfl rfl
theorem xw_X12_layHold_40 {E : xE} {res : xR} {N : Nat} {hd : List Nat} {C : xCT} {k : Nat} {L : List Int} {st : List pv} {H : PH} : xW E res N kd_X12_layHold xm_X12_layHold hd C (k + 1) 40 L st H = xB (fun t L st H => if t ∈ hd then xJ E res N kd_X12_layHold t L st H else xW E res N kd_X12_layHold xm_X12_layHold hd C k t L st H) (REPR E res) C (some 77) vb_X12_layHold_40 40 L st H := Eq.trans rfl rfl
theorem xw_X12_layHold_77 {E : xE} {res : xR} {N : Nat} {hd : List Nat} {C : xCT} {k : Nat} {L : List Int} {st : List pv} {H : PH} : xW E res N kd_X12_layHold xm_X12_layHold hd C (k + 1) 77 L st H = xB (fun t L st H => if t ∈ hd then xJ E res N kd_X12_layHold t L st H else xW E res N kd_X12_layHold xm_X12_layHold hd C k t L st H) (REPR E res) C (some 97) vb_X12_layHold_77 77 L st H := Eq.trans rfl rfl
theorem xw_X12_layHold_97 {E : xE} {res : xR} {N : Nat} {hd : List Nat} {C : xCT} {k : Nat} {L : List Int} {st : List pv} {H : PH} : xW E res N kd_X12_layHold xm_X12_layHold hd C (k + 1) 97 L st H = xB (fun t L st H => if t ∈ hd then xJ E res N kd_X12_layHold t L st H else xW E res N kd_X12_layHold xm_X12_layHold hd C k t L st H) (REPR E res) C (some 103) vb_X12_layHold_97 97 L st H := Eq.trans rfl rfl
theorem xw_X12_layHold_103 {E : xE} {res : xR} {N : Nat} {hd : List Nat} {C : xCT} {k : Nat} {L : List Int} {st : List pv} {H : PH} : xW E res N kd_X12_layHold xm_X12_layHold hd C (k + 1) 103 L st H = xB (fun t L st H => if t ∈ hd then xJ E res N kd_X12_layHold t L st H else xW E res N kd_X12_layHold xm_X12_layHold hd C k t L st H) (REPR E res) C (none) vb_X12_layHold_103 103 L st H := Eq.trans rfl rfl
def xm_X12_difference : List xbT := [(0, vb_X12_difference_0, some 9), (9, vb_X12_difference_9, some 36), (36, vb_X12_difference_36, some 38), (38, vb_X12_difference_38, some 65), (65, vb_X12_difference_65, none)]
theorem xc_X12_difference : xOK kd_X12_difference xm_X12_difference := ⟨ve_X12_difference_0, ve_X12_difference_9, ve_X12_difference_36, ve_X12_difference_38, ve_X12_difference_65, trivial⟩
theorem xa_X12_difference : xm_X12_difference.all (fun q => aOKb q.2.1 && !q.2.1.isEmpty) = true := by decide +kernel
theorem xw_X12_difference_0 {E : xE} {res : xR} {N : Nat} {hd : List Nat} {C : xCT} {k : Nat} {L : List Int} {st : List pv} {H : PH} : xW E res N kd_X12_difference xm_X12_difference hd C (k + 1) 0 L st H = xB (fun t L st H => if t ∈ hd then xJ E res N kd_X12_difference t L st H else xW E res N kd_X12_difference xm_X12_difference hd C k t L st H) (REPR E res) C (some 9) vb_X12_difference_0 0 L st H := Eq.trans rfl rfl
theorem xw_X12_difference_9 {E : xE} {res : xR} {N : Nat} {hd : List Nat} {C : xCT} {k : Nat} {L : List Int} {st : List pv} {H : PH} : xW E res N kd_X12_difference xm_X12_difference hd C (k + 1) 9 L st H = xB (fun t L st H => if t ∈ hd then xJ E res N kd_X12_difference t L st H else xW E res N kd_X12_difference xm_X12_difference hd C k t L st H) (REPR E res) C (some 36) vb_X12_difference_9 9 L st H := Eq.trans rfl rfl
theorem xw_X12_difference_36 {E : xE} {res : xR} {N : Nat} {hd : List Nat} {C : xCT} {k : Nat} {L : List Int} {st : List pv} {H : PH} : xW E res N kd_X12_difference xm_X12_difference hd C (k + 1) 36 L st H = xB (fun t L st H => if t ∈ hd then xJ E res N kd_X12_difference t L st H else xW E res N kd_X12_difference xm_X12_difference hd C k t L st H) (REPR E res) C (some 38) vb_X12_difference_36 36 L st H := Eq.trans rfl rfl
theorem xw_X12_difference_38 {E : xE} {res : xR} {N : Nat} {hd : List Nat} {C : xCT} {k : Nat} {L : List Int} {st : List pv} {H : PH} : xW E res N kd_X12_difference xm_X12_difference hd C (k + 1) 38 L st H = xB (fun t L st H => if t ∈ hd then xJ E res N kd_X12_difference t L st H else xW E res N kd_X12_difference xm_X12_difference hd C k t L st H) (REPR E res) C (some 65) vb_X12_difference_38 38 L st H := Eq.trans rfl rfl
theorem xw_X12_difference_65 {E : xE} {res : xR} {N : Nat} {hd : List Nat} {C : xCT} {k : Nat} {L : List Int} {st : List pv} {H : PH} : xW E res N kd_X12_difference xm_X12_difference hd C (k + 1) 65 L st H = xB (fun t L st H => if t ∈ hd then xJ E res N kd_X12_difference t L st H else xW E res N kd_X12_difference xm_X12_difference hd C k t L st H) (REPR E res) C (none) vb_X12_difference_65 65 L st H := Eq.trans rfl rfl
def xm_X12_close : List xbT := [(0, vb_X12_close_0, some 15), (15, vb_X12_close_15, some 18), (18, vb_X12_close_18, none)]
theorem xc_X12_close : xOK kd_X12_close xm_X12_close := ⟨ve_X12_close_0, ve_X12_close_15, ve_X12_close_18, trivial⟩
theorem xa_X12_close : xm_X12_close.all (fun q => aOKb q.2.1 && !q.2.1.isEmpty) = true := by decide +kernel
theorem xw_X12_close_0 {E : xE} {res : xR} {N : Nat} {hd : List Nat} {C : xCT} {k : Nat} {L : List Int} {st : List pv} {H : PH} : xW E res N kd_X12_close xm_X12_close hd C (k + 1) 0 L st H = xB (fun t L st H => if t ∈ hd then xJ E res N kd_X12_close t L st H else xW E res N kd_X12_close xm_X12_close hd C k t L st H) (REPR E res) C (some 15) vb_X12_close_0 0 L st H := Eq.trans rfl rfl
theorem xw_X12_close_15 {E : xE} {res : xR} {N : Nat} {hd : List Nat} {C : xCT} {k : Nat} {L : List Int} {st : List pv} {H : PH} : xW E res N kd_X12_close xm_X12_close hd C (k + 1) 15 L st H = xB (fun t L st H => if t ∈ hd then xJ E res N kd_X12_close t L st H else xW E res N kd_X12_close xm_X12_close hd C k t L st H) (REPR E res) C (some 18) vb_X12_close_15 15 L st H := Eq.trans rfl rfl
theorem xw_X12_close_18 {E : xE} {res : xR} {N : Nat} {hd : List Nat} {C : xCT} {k : Nat} {L : List Int} {st : List pv} {H : PH} : xW E res N kd_X12_close xm_X12_close hd C (k + 1) 18 L st H = xB (fun t L st H => if t ∈ hd then xJ E res N kd_X12_close t L st H else xW E res N kd_X12_close xm_X12_close hd C k t L st H) (REPR E res) C (none) vb_X12_close_18 18 L st H := Eq.trans rfl rfl
def xm_X12_isAgain : List xbT := [(0, vb_X12_isAgain_0, some 2), (2, vb_X12_isAgain_2, some 65), (65, vb_X12_isAgain_65, some 71), (71, vb_X12_isAgain_71, none)]
theorem xc_X12_isAgain : xOK kd_X12_isAgain xm_X12_isAgain := ⟨ve_X12_isAgain_0, ve_X12_isAgain_2, ve_X12_isAgain_65, ve_X12_isAgain_71, trivial⟩
theorem xa_X12_isAgain : xm_X12_isAgain.all (fun q => aOKb q.2.1 && !q.2.1.isEmpty) = true := by decide +kernel
theorem xw_X12_isAgain_0 {E : xE} {res : xR} {N : Nat} {hd : List Nat} {C : xCT} {k : Nat} {L : List Int} {st : List pv} {H : PH} : xW E res N kd_X12_isAgain xm_X12_isAgain hd C (k + 1) 0 L st H = xB (fun t L st H => if t ∈ hd then xJ E res N kd_X12_isAgain t L st H else xW E res N kd_X12_isAgain xm_X12_isAgain hd C k t L st H) (REPR E res) C (some 2) vb_X12_isAgain_0 0 L st H := Eq.trans rfl rfl
theorem xw_X12_isAgain_2 {E : xE} {res : xR} {N : Nat} {hd : List Nat} {C : xCT} {k : Nat} {L : List Int} {st : List pv} {H : PH} : xW E res N kd_X12_isAgain xm_X12_isAgain hd C (k + 1) 2 L st H = xB (fun t L st H => if t ∈ hd then xJ E res N kd_X12_isAgain t L st H else xW E res N kd_X12_isAgain xm_X12_isAgain hd C k t L st H) (REPR E res) C (some 65) vb_X12_isAgain_2 2 L st H := Eq.trans rfl rfl
theorem xw_X12_isAgain_65 {E : xE} {res : xR} {N : Nat} {hd : List Nat} {C : xCT} {k : Nat} {L : List Int} {st : List pv} {H : PH} : xW E res N kd_X12_isAgain xm_X12_isAgain hd C (k + 1) 65 L st H = xB (fun t L st H => if t ∈ hd then xJ E res N kd_X12_isAgain t L st H else xW E res N kd_X12_isAgain xm_X12_isAgain hd C k t L st H) (REPR E res) C (some 71) vb_X12_isAgain_65 65 L st H := Eq.trans rfl rfl
theorem xw_X12_isAgain_71 {E : xE} {res : xR} {N : Nat} {hd : List Nat} {C : xCT} {k : Nat} {L : List Int} {st : List pv} {H : PH} : xW E res N kd_X12_isAgain xm_X12_isAgain hd C (k + 1) 71 L st H = xB (fun t L st H => if t ∈ hd then xJ E res N kd_X12_isAgain t L st H else xW E res N kd_X12_isAgain xm_X12_isAgain hd C k t L st H) (REPR E res) C (none) vb_X12_isAgain_71 71 L st H := Eq.trans rfl rfl
def xm_X12_hold : List xbT := [(0, vb_X12_hold_0, some 16), (16, vb_X12_hold_16, some 18), (18, vb_X12_hold_18, some 28), (28, vb_X12_hold_28, some 61), (61, vb_X12_hold_61, some 64), (64, vb_X12_hold_64, some 98), (98, vb_X12_hold_98, some 101), (101, vb_X12_hold_101, some 136), (136, vb_X12_hold_136, some 154), (154, vb_X12_hold_154, some 163), (163, vb_X12_hold_163, some 167), (167, vb_X12_hold_167, some 168), (168, vb_X12_hold_168, some 170), (170, vb_X12_hold_170, some 176), (176, vb_X12_hold_176, some 188), (188, vb_X12_hold_188, some 200), (200, vb_X12_hold_200, some 201), (201, vb_X12_hold_201, none)]
theorem xc_X12_hold : xOK kd_X12_hold xm_X12_hold := ⟨ve_X12_hold_0, ve_X12_hold_16, ve_X12_hold_18, ve_X12_hold_28, ve_X12_hold_61, ve_X12_hold_64, ve_X12_hold_98, ve_X12_hold_101, ve_X12_hold_136, ve_X12_hold_154, ve_X12_hold_163, ve_X12_hold_167, ve_X12_hold_168, ve_X12_hold_170, ve_X12_hold_176, ve_X12_hold_188, ve_X12_hold_200, ve_X12_hold_201, trivial⟩
theorem xa_X12_hold : xm_X12_hold.all (fun q => aOKb q.2.1 && !q.2.1.isEmpty) = true := by decide +kernel
theorem xw_X12_hold_0 {E : xE} {res : xR} {N : Nat} {hd : List Nat} {C : xCT} {k : Nat} {L : List Int} {st : List pv} {H : PH} : xW E res N kd_X12_hold xm_X12_hold hd C (k + 1) 0 L st H = xB (fun t L st H => if t ∈ hd then xJ E res N kd_X12_hold t L st H else xW E res N kd_X12_hold xm_X12_hold hd C k t L st H) (REPR E res) C (some 16) vb_X12_hold_0 0 L st H := Eq.trans rfl rfl
theorem xw_X12_hold_16 {E : xE} {res : xR} {N : Nat} {hd : List Nat} {C : xCT} {k : Nat} {L : List Int} {st : List pv} {H : PH} : xW E res N kd_X12_hold xm_X12_hold hd C (k + 1) 16 L st H = xB (fun t L st H => if t ∈ hd then xJ E res N kd_X12_hold t L st H else xW E res N kd_X12_hold xm_X12_hold hd C k t L st H) (REPR E res) C (some 18) vb_X12_hold_16 16 L st H := Eq.trans rfl rfl
theorem xw_X12_hold_18 {E : xE} {res : xR} {N : Nat} {hd : List Nat} {C : xCT} {k : Nat} {L : List Int} {st : List pv} {H : PH} : xW E res N kd_X12_hold xm_X12_hold hd C (k + 1) 18 L st H = xB (fun t L st H => if t ∈ hd then xJ E res N kd_X12_hold t L st H else xW E res N kd_X12_hold xm_X12_hold hd C k t L st H) (REPR E res) C (some 28) vb_X12_hold_18 18 L st H := Eq.trans rfl rfl
theorem xw_X12_hold_28 {E : xE} {res : xR} {N : Nat} {hd : List Nat} {C : xCT} {k : Nat} {L : List Int} {st : List pv} {H : PH} : xW E res N kd_X12_hold xm_X12_hold hd C (k + 1) 28 L st H = xB (fun t L st H => if t ∈ hd then xJ E res N kd_X12_hold t L st H else xW E res N kd_X12_hold xm_X12_hold hd C k t L st H) (REPR E res) C (some 61) vb_X12_hold_28 28 L st H := Eq.trans rfl rfl
theorem xw_X12_hold_61 {E : xE} {res : xR} {N : Nat} {hd : List Nat} {C : xCT} {k : Nat} {L : List Int} {st : List pv} {H : PH} : xW E res N kd_X12_hold xm_X12_hold hd C (k + 1) 61 L st H = xB (fun t L st H => if t ∈ hd then xJ E res N kd_X12_hold t L st H else xW E res N kd_X12_hold xm_X12_hold hd C k t L st H) (REPR E res) C (some 64) vb_X12_hold_61 61 L st H := Eq.trans rfl rfl
theorem xw_X12_hold_64 {E : xE} {res : xR} {N : Nat} {hd : List Nat} {C : xCT} {k : Nat} {L : List Int} {st : List pv} {H : PH} : xW E res N kd_X12_hold xm_X12_hold hd C (k + 1) 64 L st H = xB (fun t L st H => if t ∈ hd then xJ E res N kd_X12_hold t L st H else xW E res N kd_X12_hold xm_X12_hold hd C k t L st H) (REPR E res) C (some 98) vb_X12_hold_64 64 L st H := Eq.trans rfl rfl
theorem xw_X12_hold_98 {E : xE} {res : xR} {N : Nat} {hd : List Nat} {C : xCT} {k : Nat} {L : List Int} {st : List pv} {H : PH} : xW E res N kd_X12_hold xm_X12_hold hd C (k + 1) 98 L st H = xB (fun t L st H => if t ∈ hd then xJ E res N kd_X12_hold t L st H else xW E res N kd_X12_hold xm_X12_hold hd C k t L st H) (REPR E res) C (some 101) vb_X12_hold_98 98 L st H := Eq.trans rfl rfl
theorem xw_X12_hold_101 {E : xE} {res : xR} {N : Nat} {hd : List Nat} {C : xCT} {k : Nat} {L : List Int} {st : List pv} {H : PH} : xW E res N kd_X12_hold xm_X12_hold hd C (k + 1) 101 L st H = xB (fun t L st H => if t ∈ hd then xJ E res N kd_X12_hold t L st H else xW E res N kd_X12_hold xm_X12_hold hd C k t L st H) (REPR E res) C (some 136) vb_X12_hold_101 101 L st H := Eq.trans rfl rfl
theorem xw_X12_hold_136 {E : xE} {res : xR} {N : Nat} {hd : List Nat} {C : xCT} {k : Nat} {L : List Int} {st : List pv} {H : PH} : xW E res N kd_X12_hold xm_X12_hold hd C (k + 1) 136 L st H = xB (fun t L st H => if t ∈ hd then xJ E res N kd_X12_hold t L st H else xW E res N kd_X12_hold xm_X12_hold hd C k t L st H) (REPR E res) C (some 154) vb_X12_hold_136 136 L st H := Eq.trans rfl rfl
theorem xw_X12_hold_154 {E : xE} {res : xR} {N : Nat} {hd : List Nat} {C : xCT} {k : Nat} {L : List Int} {st : List pv} {H : PH} : xW E res N kd_X12_hold xm_X12_hold hd C (k + 1) 154 L st H = xB (fun t L st H => if t ∈ hd then xJ E res N kd_X12_hold t L st H else xW E res N kd_X12_hold xm_X12_hold hd C k t L st H) (REPR E res) C (some 163) vb_X12_hold_154 154 L st H := Eq.trans rfl rfl
theorem xw_X12_hold_163 {E : xE} {res : xR} {N : Nat} {hd : List Nat} {C : xCT} {k : Nat} {L : List Int} {st : List pv} {H : PH} : xW E res N kd_X12_hold xm_X12_hold hd C (k + 1) 163 L st H = xB (fun t L st H => if t ∈ hd then xJ E res N kd_X12_hold t L st H else xW E res N kd_X12_hold xm_X12_hold hd C k t L st H) (REPR E res) C (some 167) vb_X12_hold_163 163 L st H := Eq.trans rfl rfl
theorem xw_X12_hold_167 {E : xE} {res : xR} {N : Nat} {hd : List Nat} {C : xCT} {k : Nat} {L : List Int} {st : List pv} {H : PH} : xW E res N kd_X12_hold xm_X12_hold hd C (k + 1) 167 L st H = xB (fun t L st H => if t ∈ hd then xJ E res N kd_X12_hold t L st H else xW E res N kd_X12_hold xm_X12_hold hd C k t L st H) (REPR E res) C (some 168) vb_X12_hold_167 167 L st H := Eq.trans rfl rfl
theorem xw_X12_hold_168 {E : xE} {res : xR} {N : Nat} {hd : List Nat} {C : xCT} {k : Nat} {L : List Int} {st : List pv} {H : PH} : xW E res N kd_X12_hold xm_X12_hold hd C (k + 1) 168 L st H = xB (fun t L st H => if t ∈ hd then xJ E res N kd_X12_hold t L st H else xW E res N kd_X12_hold xm_X12_hold hd C k t L st H) (REPR E res) C (some 170) vb_X12_hold_168 168 L st H := Eq.trans rfl rfl
theorem xw_X12_hold_170 {E : xE} {res : xR} {N : Nat} {hd : List Nat} {C : xCT} {k : Nat} {L : List Int} {st : List pv} {H : PH} : xW E res N kd_X12_hold xm_X12_hold hd C (k + 1) 170 L st H = xB (fun t L st H => if t ∈ hd then xJ E res N kd_X12_hold t L st H else xW E res N kd_X12_hold xm_X12_hold hd C k t L st H) (REPR E res) C (some 176) vb_X12_hold_170 170 L st H := Eq.trans rfl rfl
theorem xw_X12_hold_176 {E : xE} {res : xR} {N : Nat} {hd : List Nat} {C : xCT} {k : Nat} {L : List Int} {st : List pv} {H : PH} : xW E res N kd_X12_hold xm_X12_hold hd C (k + 1) 176 L st H = xB (fun t L st H => if t ∈ hd then xJ E res N kd_X12_hold t L st H else xW E res N kd_X12_hold xm_X12_hold hd C k t L st H) (REPR E res) C (some 188) vb_X12_hold_176 176 L st H := Eq.trans rfl rfl
theorem xw_X12_hold_188 {E : xE} {res : xR} {N : Nat} {hd : List Nat} {C : xCT} {k : Nat} {L : List Int} {st : List pv} {H : PH} : xW E res N kd_X12_hold xm_X12_hold hd C (k + 1) 188 L st H = xB (fun t L st H => if t ∈ hd then xJ E res N kd_X12_hold t L st H else xW E res N kd_X12_hold xm_X12_hold hd C k t L st H) (REPR E res) C (some 200) vb_X12_hold_188 188 L st H := Eq.trans rfl rfl
theorem xw_X12_hold_200 {E : xE} {res : xR} {N : Nat} {hd : List Nat} {C : xCT} {k : Nat} {L : List Int} {st : List pv} {H : PH} : xW E res N kd_X12_hold xm_X12_hold hd C (k + 1) 200 L st H = xB (fun t L st H => if t ∈ hd then xJ E res N kd_X12_hold t L st H else xW E res N kd_X12_hold xm_X12_hold hd C k t L st H) (REPR E res) C (some 201) vb_X12_hold_200 200 L st H := Eq.trans rfl rfl
theorem xw_X12_hold_201 {E : xE} {res : xR} {N : Nat} {hd : List Nat} {C : xCT} {k : Nat} {L : List Int} {st : List pv} {H : PH} : xW E res N kd_X12_hold xm_X12_hold hd C (k + 1) 201 L st H = xB (fun t L st H => if t ∈ hd then xJ E res N kd_X12_hold t L st H else xW E res N kd_X12_hold xm_X12_hold hd C k t L st H) (REPR E res) C (none) vb_X12_hold_201 201 L st H := Eq.trans rfl rfl
/-! ===== lines of a hold, as the model lays them ===== -/
/-- of the first lines those of a hold and a side: how many, which -/
def hlS (A : Int → Int) (h d : Int) : Nat → Int × (Int → Int)
  | 0 => (0, fun _ => 0)
  | k + 1 => if A (404 + 12 * (k : Int) + 1) = h ∧ A (404 + 12 * (k : Int)) = d then ((hlS A h d k).1 + 1, xup (hlS A h d k).2 (hlS A h d k).1 k) else hlS A h d k
theorem hlS_S (A : Int → Int) (h d : Int) (k : Nat) : hlS A h d (k + 1) = if A (404 + 12 * (k : Int) + 1) = h ∧ A (404 + 12 * (k : Int)) = d then ((hlS A h d k).1 + 1, xup (hlS A h d k).2 (hlS A h d k).1 k) else hlS A h d k := rfl
theorem hlS_in (A : Int → Int) (h d : Int) : ∀ k : Nat, (0 ≤ (hlS A h d k).1 ∧ (hlS A h d k).1 ≤ k) ∧ ∀ i, 0 ≤ i → i < (hlS A h d k).1 → 0 ≤ (hlS A h d k).2 i ∧ (hlS A h d k).2 i < k
  | 0 => ⟨⟨Int.le_refl _, Int.le_refl _⟩, fun i i0 i1 => by
      have i1 : i < 0 := i1
      omega⟩
  | k + 1 => by
    obtain ⟨a, b⟩ := hlS_in A h d k
    rw [hlS_S]
    by_cases c : A (404 + 12 * (k : Int) + 1) = h ∧ A (404 + 12 * (k : Int)) = d
    · rw [if_pos c]
      refine ⟨⟨by dsimp only; omega, by dsimp only; omega⟩, fun i i0 i1 => ?_⟩
      dsimp only at i1 ⊢
      unfold xup
      by_cases e : i = (hlS A h d k).1
      · rw [if_pos e]
        omega
      · rw [if_neg e]
        have := b i i0 (by omega)
        omega
    · rw [if_neg c]
      exact ⟨by omega, fun i i0 i1 => by have := b i i0 i1; omega⟩
/-- told by a number and a row -/
def HL (s : Int × (Int → Int)) (c : Int) (F : Int → Int) : Prop := c = s.1 ∧ ∀ i, 0 ≤ i → i < s.1 → F i = s.2 i
theorem fdS_end (f : Int → Int) : ∀ (n : Nat) (a v : Int), fdS f (n + 1) a v = fdS f n a v + f (a + n)
  | 0, a, v => by
    show v + f a = v + f (a + (0 : Nat))
    rw [show a + ((0 : Nat) : Int) = a by omega]
  | n + 1, a, v => by
    have e := fdS_end f n (a + 1) (v + f a)
    have e1 : fdS f (n + 1 + 1) a v = fdS f (n + 1) (a + 1) (v + f a) := rfl
    have e2 : fdS f (n + 1) a v = fdS f n (a + 1) (v + f a) := rfl
    rw [e1, e2, e, show a + 1 + (n : Int) = a + ((n + 1 : Nat) : Int) by omega]
theorem fdS_eq {f f' : Int → Int} : ∀ (n : Nat) (a v : Int), (∀ x, a ≤ x → x < a + n → f x = f' x) → fdS f n a v = fdS f' n a v
  | 0, _, _, _ => rfl
  | n + 1, a, v, h => by
    unfold fdS
    rw [h a (by omega) (by omega)]
    exact fdS_eq n (a + 1) _ (fun x p q => h x (by omega) (by omega))
/-- summed over those lines, or over all lines with a condition -/
theorem hlS_sum (A : Int → Int) (h d : Int) (g : Int → Int) : ∀ k : Nat, fdS (fun i => g ((hlS A h d k).2 i)) (hlS A h d k).1.toNat 0 0 = fdS (fun k => if A (404 + 12 * k + 1) = h ∧ A (404 + 12 * k) = d then g k else 0) k 0 0
  | 0 => rfl
  | k + 1 => by
    have ih := hlS_sum A h d g k
    obtain ⟨a, b⟩ := hlS_in A h d k
    rw [fdS_end, ← ih, show (0 : Int) + (k : Int) = (k : Int) by omega]
    rw [hlS_S]
    by_cases c : A (404 + 12 * (k : Int) + 1) = h ∧ A (404 + 12 * (k : Int)) = d
    · rw [if_pos c, if_pos c]
      dsimp only
      rw [show ((hlS A h d k).1 + 1).toNat = (hlS A h d k).1.toNat + 1 by omega, fdS_end, show (0 : Int) + ((hlS A h d k).1.toNat : Int) = (hlS A h d k).1 by omega]
      have e1 : xup (hlS A h d k).2 (hlS A h d k).1 k (hlS A h d k).1 = k := if_pos rfl
      rw [e1, fdS_eq (f' := fun i => g ((hlS A h d k).2 i))]
      intro x x0 x1
      have e2 : xup (hlS A h d k).2 (hlS A h d k).1 k x = (hlS A h d k).2 x := if_neg (by omega)
      rw [e2]
    · rw [if_neg c, if_neg c]
      omega
theorem hlS_many (A : Int → Int) (h d : Int) : ∀ k : Nat, (hlS A h d k).1 = fdS (fun k => if A (404 + 12 * k + 1) = h ∧ A (404 + 12 * k) = d then 1 else 0) k 0 0
  | 0 => rfl
  | k + 1 => by
    have ih := hlS_many A h d k
    rw [fdS_end, ← ih, show (0 : Int) + (k : Int) = (k : Int) by omega]
    rw [hlS_S]
    by_cases c : A (404 + 12 * (k : Int) + 1) = h ∧ A (404 + 12 * (k : Int)) = d
    · rw [if_pos c, if_pos c]
    · rw [if_neg c, if_neg c]
      omega
/-- the lines of a hold and a side -/
def hlZ (A : Int → Int) (h d : Int) : Int × (Int → Int) := hlS A h d (A 2).toNat
def beG (A : Int → Int) (k : Int) : Int := max 0 (min 999 (A (404 + 12 * k + 2)))
theorem hlZ_bl (A : Int → Int) (h d : Int) : fdS (fun i => beG A ((hlZ A h d).2 i)) (hlZ A h d).1.toNat 0 0 = blQ A h d := hlS_sum A h d (beG A) (A 2).toNat
theorem hlZ_ln (A : Int → Int) (h d : Int) : (hlZ A h d).1 = lnQ A h d := hlS_many A h d (A 2).toNat
theorem HL_push {s : Int × (Int → Int)} {c v : Int} {F F' : Int → Int} (h : HL s c F) (e : ∀ j, F' j = if j = c then v else F j) : HL (s.1 + 1, xup s.2 s.1 v) (c + 1) F' := by
  obtain ⟨h1, h2⟩ := h
  refine ⟨by rw [h1], fun i i0 i1 => ?_⟩
  rw [e, h1]
  show _ = if i = s.1 then v else s.2 i
  by_cases q : i = s.1
  · rw [if_pos q, if_pos q]
  · rw [if_neg q, if_neg q]
    have i1 : i < s.1 + 1 := i1
    exact h2 i i0 (by omega)
set_option maxRecDepth 100000 in
theorem lp_lh (A : Int → Int) (hB : MB A) (hX : OKX A) (hd : Int) {E : xE} {res : xR} : ∀ (n : Nat) (k : Int) (H : PH), 0 ≤ k → k ≤ A 2 → H 591 = A → HL (hlS A hd 0 k.toNat) (H 590 39) (H 612) → HL (hlS A hd 1 k.toNat) (H 590 40) (H 613) → RUN E res n kd_X12_layHold (zget kd_X12_layHold 12) 12 [590, hd, k] [] H → ∃ H' : PH, HL (hlZ A hd 0) (H' 590 39) (H' 612) ∧ HL (hlZ A hd 1) (H' 590 40) (H' 613) ∧ SCm [612, 613] [39, 40] H H' ∧ REPR E res none H' := by
  intro n
  induction n using Nat.strongRecOn with
  | _ n ih =>
    intro k H k0 k1 hA hS hT h
    have a2 := hB.2.2.1
    have zk1 : zw (12 * k) = 12 * k := zw_lit (by omega) (by omega)
    have zk2 : zw (404 + 12 * k) = 404 + 12 * k := zw_lit (by omega) (by omega)
    have zk3 : zw (404 + 12 * k + 1) = 404 + 12 * k + 1 := zw_lit (by omega) (by omega)
    have zk0 : zw (404 + 12 * k + 0) = 404 + 12 * k := by rw [Int.add_zero]; exact zk2
    have zk4 : zw (k + 1) = k + 1 := zw_lit (by omega) (by omega)
    by_cases c : k < A 2
    · have c' : ¬ A 2 ≤ k := by omega
      have ox := (hX.2 k k0 c).1
      have st : (k + 1).toNat = k.toNat + 1 := by omega
      have kn : ((k.toNat : Nat) : Int) = k := by omega
      have e : ∀ d, hlS A hd d (k + 1).toNat = if A (404 + 12 * k + 1) = hd ∧ A (404 + 12 * k) = d then ((hlS A hd d k.toNat).1 + 1, xup (hlS A hd d k.toNat).2 (hlS A hd d k.toNat).1 k) else hlS A hd d k.toNat := by
        intro d
        rw [st]
        rw [hlS_S]
        rw [kn]
      obtain ⟨s1, s2⟩ := hlS_in A hd 0 k.toNat
      obtain ⟨t1, t2⟩ := hlS_in A hd 1 k.toNat
      have y1 : zw (H 590 39 + 1) = H 590 39 + 1 := by rw [hS.1]; exact zw_lit (by omega) (by omega)
      have y2 : zw (H 590 40 + 1) = H 590 40 + 1 := by rw [hT.1]; exact zw_lit (by omega) (by omega)
      by_cases q : A (404 + 12 * k + 1) = hd
      · by_cases q2 : A (404 + 12 * k) = 0
        · have h := xw_top (hd := [12]) 8 xD6_ok xc_X12_layHold xa_X12_layHold (t := 12) rfl h
          simp (maxDischargeDepth := 12) -implicitDefEqProofs [vb_X12_layHold_0, vb_X12_layHold_12, vb_X12_layHold_40, vb_X12_layHold_77, vb_X12_layHold_97, vb_X12_layHold_103, xI_0, xI_1, xI_3, xI_6, xI_7, xI_14, xI_33, xI_36, xI_38, xI_43, xI_46, xI_49, xI_50, xI_51, xI_52, xI_60, xI_65, xw_X12_layHold_0, xw_X12_layHold_12, xw_X12_layHold_40, xw_X12_layHold_77, xw_X12_layHold_97, xw_X12_layHold_103, zw_lit, xB_c, xB_s, xB_n, i1_c, j2_c, k1_c, jJ_e, xlg, xls, xla, xpd, ppush, zw_m1, zw_m2, zw_m3, gf_12_0, gf_12_35, gf_12_36, gf_12_39, gf_12_40, pf_12_39, pf_12_40, tg_12_0, tg_12_35, tg_12_36, tg_12_39, tg_12_40, gv_590_0, gv_590_35, gv_590_36, gv_590_39, gv_590_40, xD1, xD2, xD3, xD4, xD5, xD6, xb1_0, hA, c, c', zk1, zk2, zk3, zk0, zk4, q, q2, xp_ne, y1] at h
          obtain ⟨m, hm, h⟩ := h
          obtain ⟨H', g1, g2, g3, g4⟩ := ih m hm (k + 1) _ (by omega) (by omega) (by rw [xp_ne (by decide), xp_ne (by decide)]; exact hA) (by
            rw [e 0, if_pos ⟨q, q2⟩, xp_at, if_pos rfl]
            exact HL_push hS (fun j => by rw [xp_ne (by decide), xp_at])) (by
            rw [e 1, if_neg (by omega), xp_at, if_neg (by decide), xp_ne (by decide), xp_ne (by decide), xp_ne (by decide)]
            exact hT) h
          exact ⟨H', g1, g2, SCm_trans (SCm_trans (SCm_cell (by decide) (by decide)) (SCm_fld (by decide))) g3, g4⟩
        · have q3 : A (404 + 12 * k) = 1 := by omega
          have h := xw_top (hd := [12]) 8 xD6_ok xc_X12_layHold xa_X12_layHold (t := 12) rfl h
          simp (maxDischargeDepth := 12) -implicitDefEqProofs [vb_X12_layHold_0, vb_X12_layHold_12, vb_X12_layHold_40, vb_X12_layHold_77, vb_X12_layHold_97, vb_X12_layHold_103, xI_0, xI_1, xI_3, xI_6, xI_7, xI_14, xI_33, xI_36, xI_38, xI_43, xI_46, xI_49, xI_50, xI_51, xI_52, xI_60, xI_65, xw_X12_layHold_0, xw_X12_layHold_12, xw_X12_layHold_40, xw_X12_layHold_77, xw_X12_layHold_97, xw_X12_layHold_103, zw_lit, xB_c, xB_s, xB_n, i1_c, j2_c, k1_c, jJ_e, xlg, xls, xla, xpd, ppush, zw_m1, zw_m2, zw_m3, gf_12_0, gf_12_35, gf_12_36, gf_12_39, gf_12_40, pf_12_39, pf_12_40, tg_12_0, tg_12_35, tg_12_36, tg_12_39, tg_12_40, gv_590_0, gv_590_35, gv_590_36, gv_590_39, gv_590_40, xD1, xD2, xD3, xD4, xD5, xD6, xb1_0, hA, c, c', zk1, zk2, zk3, zk0, zk4, q, q3, xp_ne, y2] at h
          obtain ⟨m, hm, h⟩ := h
          obtain ⟨H', g1, g2, g3, g4⟩ := ih m hm (k + 1) _ (by omega) (by omega) (by rw [xp_ne (by decide), xp_ne (by decide)]; exact hA) (by
            rw [e 0, if_neg (by omega), xp_at, if_neg (by decide), xp_ne (by decide), xp_ne (by decide), xp_ne (by decide)]
            exact hS) (by
            rw [e 1, if_pos ⟨q, q3⟩, xp_at, if_pos rfl]
            exact HL_push hT (fun j => by rw [xp_ne (by decide), xp_at])) h
          exact ⟨H', g1, g2, SCm_trans (SCm_trans (SCm_cell (by decide) (by decide)) (SCm_fld (by decide))) g3, g4⟩
      · have h := xw_top (hd := [12]) 8 xD6_ok xc_X12_layHold xa_X12_layHold (t := 12) rfl h
        simp (maxDischargeDepth := 12) -implicitDefEqProofs [vb_X12_layHold_0, vb_X12_layHold_12, vb_X12_layHold_40, vb_X12_layHold_77, vb_X12_layHold_97, vb_X12_layHold_103, xI_0, xI_1, xI_3, xI_6, xI_7, xI_14, xI_33, xI_36, xI_38, xI_43, xI_46, xI_49, xI_50, xI_51, xI_52, xI_60, xI_65, xw_X12_layHold_0, xw_X12_layHold_12, xw_X12_layHold_40, xw_X12_layHold_77, xw_X12_layHold_97, xw_X12_layHold_103, zw_lit, xB_c, xB_s, xB_n, i1_c, j2_c, k1_c, jJ_e, xlg, xls, xla, xpd, ppush, zw_m1, zw_m2, zw_m3, gf_12_0, gf_12_35, gf_12_36, gf_12_39, gf_12_40, pf_12_39, pf_12_40, tg_12_0, tg_12_35, tg_12_36, tg_12_39, tg_12_40, gv_590_0, gv_590_35, gv_590_36, gv_590_39, gv_590_40, xD1, xD2, xD3, xD4, xD5, xD6, xb1_0, hA, c, c', zk1, zk2, zk3, zk4, q] at h
        obtain ⟨m, hm, h⟩ := h
        exact ih m hm (k + 1) H (by omega) (by omega) hA (by rw [e 0, if_neg (fun w => q w.1)]; exact hS) (by rw [e 1, if_neg (fun w => q w.1)]; exact hT) h
    · have c' : A 2 ≤ k := by omega
      have h := xw_top (hd := [12]) 8 xD6_ok xc_X12_layHold xa_X12_layHold (t := 12) rfl h
      simp (maxDischargeDepth := 12) -implicitDefEqProofs [vb_X12_layHold_0, vb_X12_layHold_12, vb_X12_layHold_40, vb_X12_layHold_77, vb_X12_layHold_97, vb_X12_layHold_103, xI_0, xI_1, xI_3, xI_6, xI_7, xI_14, xI_33, xI_36, xI_38, xI_43, xI_46, xI_49, xI_50, xI_51, xI_52, xI_60, xI_65, xw_X12_layHold_0, xw_X12_layHold_12, xw_X12_layHold_40, xw_X12_layHold_77, xw_X12_layHold_97, xw_X12_layHold_103, zw_lit, xB_c, xB_s, xB_n, i1_c, j2_c, k1_c, jJ_e, xlg, xls, xla, xpd, ppush, zw_m1, zw_m2, zw_m3, gf_12_0, gf_12_35, gf_12_36, gf_12_39, gf_12_40, pf_12_39, pf_12_40, tg_12_0, tg_12_35, tg_12_36, tg_12_39, tg_12_40, gv_590_0, gv_590_35, gv_590_36, gv_590_39, gv_590_40, xD1, xD2, xD3, xD4, xD5, xD6, xb1_0, hA, c, c'] at h
      have ek : k = A 2 := by omega
      rw [ek] at hS hT
      exact ⟨H, hS, hT, SCm_refl, h⟩
set_option maxRecDepth 100000 in
theorem sp_X12_layHold (hd : Int) (H : PH) (hB : MB (H 591)) (hX : OKX (H 591)) : SPEC 235 [(2, 590), (0, hd)] H (fun r H' => r = none ∧ HL (hlZ (H 591) hd 0) (H' 590 39) (H' 612) ∧ HL (hlZ (H 591) hd 1) (H' 590 40) (H' 613) ∧ SCm [612, 613] [39, 40] H H') := by
  intro E n res h
  have h := call_runP 3 vm_X12_layHold h
  have h := xw_top (hd := [12]) 8 xD6_ok xc_X12_layHold xa_X12_layHold (t := 0) rfl h
  simp (maxDischargeDepth := 12) -implicitDefEqProofs [vb_X12_layHold_0, vb_X12_layHold_12, vb_X12_layHold_40, vb_X12_layHold_77, vb_X12_layHold_97, vb_X12_layHold_103, xI_0, xI_1, xI_3, xI_6, xI_7, xI_14, xI_33, xI_36, xI_38, xI_43, xI_46, xI_49, xI_50, xI_51, xI_52, xI_60, xI_65, xw_X12_layHold_0, xw_X12_layHold_12, xw_X12_layHold_40, xw_X12_layHold_77, xw_X12_layHold_97, xw_X12_layHold_103, zw_lit, xB_c, xB_s, xB_n, i1_c, j2_c, k1_c, jJ_e, xlg, xls, xla, xpd, ppush, zw_m1, zw_m2, zw_m3, gf_12_0, gf_12_35, gf_12_36, gf_12_39, gf_12_40, pf_12_39, pf_12_40, tg_12_0, tg_12_35, tg_12_36, tg_12_39, tg_12_40, gv_590_0, gv_590_35, gv_590_36, gv_590_39, gv_590_40, xD1, xD2, xD3, xD4, xD5, xD6, xb1_0] at h
  obtain ⟨m, hm, h⟩ := h
  have z : ∀ d, hlS (H 591) hd d (0 : Int).toNat = (0, fun _ => 0) := fun _ => rfl
  obtain ⟨H', g1, g2, g3, g4⟩ := lp_lh (H 591) hB hX hd m 0 _ (by omega) hB.2.2.1.1 (by rw [xp_ne (by decide), xp_ne (by decide)]) (by
    rw [z]
    refine ⟨(show _ = (0 : Int) by rw [xp_at, if_neg (by decide), xp_at, if_pos rfl]), fun i i0 i1 => ?_⟩
    have i1 : i < 0 := i1
    omega) (by
    rw [z]
    refine ⟨(show _ = (0 : Int) by rw [xp_at, if_pos rfl]), fun i i0 i1 => ?_⟩
    have i1 : i < 0 := i1
    omega) h
  exact ⟨none, H', g4, rfl, g1, g2, SCm_trans (SCm_trans (SCm_fld (by decide)) (SCm_fld (by decide))) g3⟩
/-! sums over them -/
theorem be_of {A : Int → Int} (hX : OKX A) {h d i : Int} (i0 : 0 ≤ i) (i1 : i < (hlZ A h d).1) : beG A ((hlZ A h d).2 i) = A (404 + 12 * (hlZ A h d).2 i + 2) ∧ (0 ≤ (hlZ A h d).2 i ∧ (hlZ A h d).2 i < A 2) ∧ 0 ≤ beG A ((hlZ A h d).2 i) ∧ beG A ((hlZ A h d).2 i) ≤ 999 := by
  have a := (hlS_in A h d (A 2).toNat).2 i i0 i1
  have a : 0 ≤ (hlZ A h d).2 i ∧ (hlZ A h d).2 i < ((A 2).toNat : Int) := a
  have o := (hX.2 ((hlZ A h d).2 i) a.1 (by omega)).2.2
  unfold beG
  omega
theorem hlZ_in {A : Int → Int} (hB : MB A) (h d : Int) : 0 ≤ (hlZ A h d).1 ∧ (hlZ A h d).1 ≤ 60 := by
  have a : 0 ≤ (hlZ A h d).1 ∧ (hlZ A h d).1 ≤ ((A 2).toNat : Int) := (hlS_in A h d (A 2).toNat).1
  have := hB.2.2.1
  omega
set_option maxRecDepth 100000 in
theorem lp_df1 (A : Int → Int) (hB : MB A) (hX : OKX A) (hd : Int) (H : PH) (hA : H 591 = A) (hS : HL (hlZ A hd 0) (H 590 39) (H 612)) {E : xE} {res : xR} : ∀ (n : Nat) (i v : Int), 0 ≤ i → i ≤ (hlZ A hd 0).1 → 0 ≤ v → v ≤ 999 * i → RUN E res n kd_X12_difference (zget kd_X12_difference 9) 9 [590, hd, v, i] [] H → xJ E res n kd_X12_difference 38 [590, hd, (fdS (fun i => beG A ((hlZ A hd 0).2 i)) ((hlZ A hd 0).1 - i).toNat i v), 0] [] H := by
  have zi := hlZ_in hB hd 0
  have a2 := hB.2.2.1
  have hN := hS.1
  intro n
  induction n using Nat.strongRecOn with
  | _ n ih =>
    intro i v i0 i1 v0 v1 h
    have z1 : zw (i + 1) = i + 1 := zw_lit (by omega) (by omega)
    by_cases c : i < (hlZ A hd 0).1
    · have c' : ¬ (hlZ A hd 0).1 ≤ i := by omega
      obtain ⟨be, kq, b0, b1⟩ := be_of hX i0 c
      rw [be] at b0 b1
      have f := hS.2 i i0 c
      have zq1 : zw (12 * (hlZ A hd 0).2 i) = 12 * (hlZ A hd 0).2 i := zw_lit (by omega) (by omega)
      have zq2 : zw (404 + 12 * (hlZ A hd 0).2 i) = 404 + 12 * (hlZ A hd 0).2 i := zw_lit (by omega) (by omega)
      have zq3 : zw (404 + 12 * (hlZ A hd 0).2 i + 2) = 404 + 12 * (hlZ A hd 0).2 i + 2 := zw_lit (by omega) (by omega)
      have zv : zw (v + A (404 + 12 * (hlZ A hd 0).2 i + 2)) = v + A (404 + 12 * (hlZ A hd 0).2 i + 2) := zw_lit (by omega) (by omega)
      have st : ((hlZ A hd 0).1 - i).toNat = ((hlZ A hd 0).1 - (i + 1)).toNat + 1 := by omega
      rw [st]
      unfold fdS
      have h := xw_top (hd := [9, 38]) 7 xD6_ok xc_X12_difference xa_X12_difference (t := 9) rfl h
      simp (maxDischargeDepth := 12) -implicitDefEqProofs [vb_X12_difference_0, vb_X12_difference_9, vb_X12_difference_36, vb_X12_difference_38, vb_X12_difference_65, xI_0, xI_1, xI_3, xI_6, xI_7, xI_14, xI_15, xI_36, xI_46, xI_49, xI_51, xI_61, xI_62, xw_X12_difference_0, xw_X12_difference_9, xw_X12_difference_36, xw_X12_difference_38, xw_X12_difference_65, zw_lit, xB_c, xB_s, xB_n, i1_c, j2_c, k1_c, jJ_e, xlg, xls, xla, xpd, ppush, zw_m1, zw_m2, zw_m3, gf_12_35, gf_12_36, gf_12_39, gf_12_40, tg_12_35, tg_12_36, tg_12_39, tg_12_40, gv_590_35, gv_590_36, gv_590_39, gv_590_40, xD1, xD2, xD3, xD4, xD5, xD6, xb1_0, hN, c, c', f, hA, zq1, zq2, zq3, zv, z1] at h
      obtain ⟨m, hm, h⟩ := h
      rw [be]
      exact xJ_up (ih m hm (i + 1) _ (by omega) (by omega) (by omega) (by omega) h) (by omega)
    · have c' : (hlZ A hd 0).1 ≤ i := by omega
      rw [show ((hlZ A hd 0).1 - i).toNat = 0 by omega]
      have h := xw_top (hd := [9, 38]) 7 xD6_ok xc_X12_difference xa_X12_difference (t := 9) rfl h
      simp (maxDischargeDepth := 12) -implicitDefEqProofs [vb_X12_difference_0, vb_X12_difference_9, vb_X12_difference_36, vb_X12_difference_38, vb_X12_difference_65, xI_0, xI_1, xI_3, xI_6, xI_7, xI_14, xI_15, xI_36, xI_46, xI_49, xI_51, xI_61, xI_62, xw_X12_difference_0, xw_X12_difference_9, xw_X12_difference_36, xw_X12_difference_38, xw_X12_difference_65, zw_lit, xB_c, xB_s, xB_n, i1_c, j2_c, k1_c, jJ_e, xlg, xls, xla, xpd, ppush, zw_m1, zw_m2, zw_m3, gf_12_35, gf_12_36, gf_12_39, gf_12_40, tg_12_35, tg_12_36, tg_12_39, tg_12_40, gv_590_35, gv_590_36, gv_590_39, gv_590_40, xD1, xD2, xD3, xD4, xD5, xD6, xb1_0, hN, c, c'] at h
      exact h
set_option maxRecDepth 100000 in
theorem lp_ho1 (A : Int → Int) (hB : MB A) (hX : OKX A) (hd : Int) (H : PH) (hA : H 591 = A) (hS : HL (hlZ A hd 0) (H 590 39) (H 612)) {E : xE} {res : xR} : ∀ (n : Nat) (i v : Int), 0 ≤ i → i ≤ (hlZ A hd 0).1 → 0 ≤ v → v ≤ 999 * i → RUN E res n kd_X12_hold (zget kd_X12_hold 28) 28 [590, hd, 0, v, i] [] H → xJ E res n kd_X12_hold 64 [590, hd, 0, (fdS (fun i => beG A ((hlZ A hd 0).2 i)) ((hlZ A hd 0).1 - i).toNat i v), 0] [] H := by
  have zi := hlZ_in hB hd 0
  have a2 := hB.2.2.1
  have hN := hS.1
  intro n
  induction n using Nat.strongRecOn with
  | _ n ih =>
    intro i v i0 i1 v0 v1 h
    have z1 : zw (i + 1) = i + 1 := zw_lit (by omega) (by omega)
    by_cases c : i < (hlZ A hd 0).1
    · have c' : ¬ (hlZ A hd 0).1 ≤ i := by omega
      obtain ⟨be, kq, b0, b1⟩ := be_of hX i0 c
      rw [be] at b0 b1
      have f := hS.2 i i0 c
      have zq1 : zw (12 * (hlZ A hd 0).2 i) = 12 * (hlZ A hd 0).2 i := zw_lit (by omega) (by omega)
      have zq2 : zw (404 + 12 * (hlZ A hd 0).2 i) = 404 + 12 * (hlZ A hd 0).2 i := zw_lit (by omega) (by omega)
      have zq3 : zw (404 + 12 * (hlZ A hd 0).2 i + 2) = 404 + 12 * (hlZ A hd 0).2 i + 2 := zw_lit (by omega) (by omega)
      have zv : zw (v + A (404 + 12 * (hlZ A hd 0).2 i + 2)) = v + A (404 + 12 * (hlZ A hd 0).2 i + 2) := zw_lit (by omega) (by omega)
      have st : ((hlZ A hd 0).1 - i).toNat = ((hlZ A hd 0).1 - (i + 1)).toNat + 1 := by omega
      rw [st]
      unfold fdS
      have h := xw_top (hd := [28, 64]) 20 xD6_ok xc_X12_hold xa_X12_hold (t := 28) rfl h
      simp (maxDischargeDepth := 12) -implicitDefEqProofs [vb_X12_hold_0, vb_X12_hold_16, vb_X12_hold_18, vb_X12_hold_28, vb_X12_hold_61, vb_X12_hold_64, vb_X12_hold_98, vb_X12_hold_101, vb_X12_hold_136, vb_X12_hold_154, vb_X12_hold_163, vb_X12_hold_167, vb_X12_hold_168, vb_X12_hold_170, vb_X12_hold_176, vb_X12_hold_188, vb_X12_hold_200, vb_X12_hold_201, xI_0, xI_1, xI_3, xI_6, xI_7, xI_14, xI_36, xI_37, xI_38, xI_39, xI_43, xI_44, xI_46, xI_48, xI_49, xI_51, xI_60, xI_61, xI_62, xw_X12_hold_0, xw_X12_hold_16, xw_X12_hold_18, xw_X12_hold_28, xw_X12_hold_61, xw_X12_hold_64, xw_X12_hold_98, xw_X12_hold_101, xw_X12_hold_136, xw_X12_hold_154, xw_X12_hold_163, xw_X12_hold_167, xw_X12_hold_168, xw_X12_hold_170, xw_X12_hold_176, xw_X12_hold_188, xw_X12_hold_200, xw_X12_hold_201, zw_lit, xB_c, xB_s, xB_n, i1_c, j2_c, k1_c, jJ_e, xlg, xls, xla, xpd, ppush, zw_m1, zw_m2, zw_m3, gf_12_0, gf_12_35, gf_12_36, gf_12_39, gf_12_40, tg_12_0, tg_12_35, tg_12_36, tg_12_39, tg_12_40, gv_590_0, gv_590_35, gv_590_36, gv_590_39, gv_590_40, xD1, xD2, xD3, xD4, xD5, xD6, xb1_0, hN, c, c', f, hA, zq1, zq2, zq3, zv, z1] at h
      obtain ⟨m, hm, h⟩ := h
      rw [be]
      exact xJ_up (ih m hm (i + 1) _ (by omega) (by omega) (by omega) (by omega) h) (by omega)
    · have c' : (hlZ A hd 0).1 ≤ i := by omega
      rw [show ((hlZ A hd 0).1 - i).toNat = 0 by omega]
      have h := xw_top (hd := [28, 64]) 20 xD6_ok xc_X12_hold xa_X12_hold (t := 28) rfl h
      simp (maxDischargeDepth := 12) -implicitDefEqProofs [vb_X12_hold_0, vb_X12_hold_16, vb_X12_hold_18, vb_X12_hold_28, vb_X12_hold_61, vb_X12_hold_64, vb_X12_hold_98, vb_X12_hold_101, vb_X12_hold_136, vb_X12_hold_154, vb_X12_hold_163, vb_X12_hold_167, vb_X12_hold_168, vb_X12_hold_170, vb_X12_hold_176, vb_X12_hold_188, vb_X12_hold_200, vb_X12_hold_201, xI_0, xI_1, xI_3, xI_6, xI_7, xI_14, xI_36, xI_37, xI_38, xI_39, xI_43, xI_44, xI_46, xI_48, xI_49, xI_51, xI_60, xI_61, xI_62, xw_X12_hold_0, xw_X12_hold_16, xw_X12_hold_18, xw_X12_hold_28, xw_X12_hold_61, xw_X12_hold_64, xw_X12_hold_98, xw_X12_hold_101, xw_X12_hold_136, xw_X12_hold_154, xw_X12_hold_163, xw_X12_hold_167, xw_X12_hold_168, xw_X12_hold_170, xw_X12_hold_176, xw_X12_hold_188, xw_X12_hold_200, xw_X12_hold_201, zw_lit, xB_c, xB_s, xB_n, i1_c, j2_c, k1_c, jJ_e, xlg, xls, xla, xpd, ppush, zw_m1, zw_m2, zw_m3, gf_12_0, gf_12_35, gf_12_36, gf_12_39, gf_12_40, tg_12_0, tg_12_35, tg_12_36, tg_12_39, tg_12_40, gv_590_0, gv_590_35, gv_590_36, gv_590_39, gv_590_40, xD1, xD2, xD3, xD4, xD5, xD6, xb1_0, hN, c, c'] at h
      exact h
set_option maxRecDepth 100000 in
theorem lp_ho2 (A : Int → Int) (hB : MB A) (hX : OKX A) (hd : Int) (H : PH) (hA : H 591 = A) (hS : HL (hlZ A hd 1) (H 590 40) (H 613)) {E : xE} {res : xR} : ∀ (n : Nat) (i v : Int), 0 ≤ i → i ≤ (hlZ A hd 1).1 → 0 ≤ v → v ≤ 999 * i → RUN E res n kd_X12_hold (zget kd_X12_hold 64) 64 [590, hd, 1, v, i] [] H → xJ E res n kd_X12_hold 101 [590, hd, 1, (fdS (fun i => beG A ((hlZ A hd 1).2 i)) ((hlZ A hd 1).1 - i).toNat i v), 0] [] H := by
  have zi := hlZ_in hB hd 1
  have a2 := hB.2.2.1
  have hN := hS.1
  intro n
  induction n using Nat.strongRecOn with
  | _ n ih =>
    intro i v i0 i1 v0 v1 h
    have z1 : zw (i + 1) = i + 1 := zw_lit (by omega) (by omega)
    by_cases c : i < (hlZ A hd 1).1
    · have c' : ¬ (hlZ A hd 1).1 ≤ i := by omega
      obtain ⟨be, kq, b0, b1⟩ := be_of hX i0 c
      rw [be] at b0 b1
      have f := hS.2 i i0 c
      have zq1 : zw (12 * (hlZ A hd 1).2 i) = 12 * (hlZ A hd 1).2 i := zw_lit (by omega) (by omega)
      have zq2 : zw (404 + 12 * (hlZ A hd 1).2 i) = 404 + 12 * (hlZ A hd 1).2 i := zw_lit (by omega) (by omega)
      have zq3 : zw (404 + 12 * (hlZ A hd 1).2 i + 2) = 404 + 12 * (hlZ A hd 1).2 i + 2 := zw_lit (by omega) (by omega)
      have zv : zw (v + A (404 + 12 * (hlZ A hd 1).2 i + 2)) = v + A (404 + 12 * (hlZ A hd 1).2 i + 2) := zw_lit (by omega) (by omega)
      have st : ((hlZ A hd 1).1 - i).toNat = ((hlZ A hd 1).1 - (i + 1)).toNat + 1 := by omega
      rw [st]
      unfold fdS
      have h := xw_top (hd := [64, 101]) 20 xD6_ok xc_X12_hold xa_X12_hold (t := 64) rfl h
      simp (maxDischargeDepth := 12) -implicitDefEqProofs [vb_X12_hold_0, vb_X12_hold_16, vb_X12_hold_18, vb_X12_hold_28, vb_X12_hold_61, vb_X12_hold_64, vb_X12_hold_98, vb_X12_hold_101, vb_X12_hold_136, vb_X12_hold_154, vb_X12_hold_163, vb_X12_hold_167, vb_X12_hold_168, vb_X12_hold_170, vb_X12_hold_176, vb_X12_hold_188, vb_X12_hold_200, vb_X12_hold_201, xI_0, xI_1, xI_3, xI_6, xI_7, xI_14, xI_36, xI_37, xI_38, xI_39, xI_43, xI_44, xI_46, xI_48, xI_49, xI_51, xI_60, xI_61, xI_62, xw_X12_hold_0, xw_X12_hold_16, xw_X12_hold_18, xw_X12_hold_28, xw_X12_hold_61, xw_X12_hold_64, xw_X12_hold_98, xw_X12_hold_101, xw_X12_hold_136, xw_X12_hold_154, xw_X12_hold_163, xw_X12_hold_167, xw_X12_hold_168, xw_X12_hold_170, xw_X12_hold_176, xw_X12_hold_188, xw_X12_hold_200, xw_X12_hold_201, zw_lit, xB_c, xB_s, xB_n, i1_c, j2_c, k1_c, jJ_e, xlg, xls, xla, xpd, ppush, zw_m1, zw_m2, zw_m3, gf_12_0, gf_12_35, gf_12_36, gf_12_39, gf_12_40, tg_12_0, tg_12_35, tg_12_36, tg_12_39, tg_12_40, gv_590_0, gv_590_35, gv_590_36, gv_590_39, gv_590_40, xD1, xD2, xD3, xD4, xD5, xD6, xb1_0, hN, c, c', f, hA, zq1, zq2, zq3, zv, z1] at h
      obtain ⟨m, hm, h⟩ := h
      rw [be]
      exact xJ_up (ih m hm (i + 1) _ (by omega) (by omega) (by omega) (by omega) h) (by omega)
    · have c' : (hlZ A hd 1).1 ≤ i := by omega
      rw [show ((hlZ A hd 1).1 - i).toNat = 0 by omega]
      have h := xw_top (hd := [64, 101]) 20 xD6_ok xc_X12_hold xa_X12_hold (t := 64) rfl h
      simp (maxDischargeDepth := 12) -implicitDefEqProofs [vb_X12_hold_0, vb_X12_hold_16, vb_X12_hold_18, vb_X12_hold_28, vb_X12_hold_61, vb_X12_hold_64, vb_X12_hold_98, vb_X12_hold_101, vb_X12_hold_136, vb_X12_hold_154, vb_X12_hold_163, vb_X12_hold_167, vb_X12_hold_168, vb_X12_hold_170, vb_X12_hold_176, vb_X12_hold_188, vb_X12_hold_200, vb_X12_hold_201, xI_0, xI_1, xI_3, xI_6, xI_7, xI_14, xI_36, xI_37, xI_38, xI_39, xI_43, xI_44, xI_46, xI_48, xI_49, xI_51, xI_60, xI_61, xI_62, xw_X12_hold_0, xw_X12_hold_16, xw_X12_hold_18, xw_X12_hold_28, xw_X12_hold_61, xw_X12_hold_64, xw_X12_hold_98, xw_X12_hold_101, xw_X12_hold_136, xw_X12_hold_154, xw_X12_hold_163, xw_X12_hold_167, xw_X12_hold_168, xw_X12_hold_170, xw_X12_hold_176, xw_X12_hold_188, xw_X12_hold_200, xw_X12_hold_201, zw_lit, xB_c, xB_s, xB_n, i1_c, j2_c, k1_c, jJ_e, xlg, xls, xla, xpd, ppush, zw_m1, zw_m2, zw_m3, gf_12_0, gf_12_35, gf_12_36, gf_12_39, gf_12_40, tg_12_0, tg_12_35, tg_12_36, tg_12_39, tg_12_40, gv_590_0, gv_590_35, gv_590_36, gv_590_39, gv_590_40, xD1, xD2, xD3, xD4, xD5, xD6, xb1_0, hN, c, c'] at h
      exact h
set_option maxRecDepth 100000 in
theorem lp_df2 (A : Int → Int) (hB : MB A) (hX : OKX A) (hd : Int) (u : Int) (hu : 0 ≤ u ∧ u ≤ 60000) (H : PH) (hA : H 591 = A) (hS : HL (hlZ A hd 1) (H 590 40) (H 613)) {E : xE} {res : xR} : ∀ (n : Nat) (i v : Int), 0 ≤ i → i ≤ (hlZ A hd 1).1 → 0 ≤ v → v ≤ 999 * i → RUN E res n kd_X12_difference (zget kd_X12_difference 38) 38 [590, hd, u - v, i] [] H → REPR E res (some (0, u - fdS (fun i => beG A ((hlZ A hd 1).2 i)) ((hlZ A hd 1).1 - i).toNat i v)) H := by
  have zi := hlZ_in hB hd 1
  have a2 := hB.2.2.1
  have hN := hS.1
  intro n
  induction n using Nat.strongRecOn with
  | _ n ih =>
    intro i v i0 i1 v0 v1 h
    have z1 : zw (i + 1) = i + 1 := zw_lit (by omega) (by omega)
    by_cases c : i < (hlZ A hd 1).1
    · have c' : ¬ (hlZ A hd 1).1 ≤ i := by omega
      obtain ⟨be, kq, b0, b1⟩ := be_of hX i0 c
      rw [be] at b0 b1
      have f := hS.2 i i0 c
      have zq1 : zw (12 * (hlZ A hd 1).2 i) = 12 * (hlZ A hd 1).2 i := zw_lit (by omega) (by omega)
      have zq2 : zw (404 + 12 * (hlZ A hd 1).2 i) = 404 + 12 * (hlZ A hd 1).2 i := zw_lit (by omega) (by omega)
      have zq3 : zw (404 + 12 * (hlZ A hd 1).2 i + 2) = 404 + 12 * (hlZ A hd 1).2 i + 2 := zw_lit (by omega) (by omega)
      have zv : zw (u - v - A (404 + 12 * (hlZ A hd 1).2 i + 2)) = u - (v + A (404 + 12 * (hlZ A hd 1).2 i + 2)) := by
        rw [show u - v - A (404 + 12 * (hlZ A hd 1).2 i + 2) = u - (v + A (404 + 12 * (hlZ A hd 1).2 i + 2)) by omega]
        exact zw_lit (by omega) (by omega)
      have st : ((hlZ A hd 1).1 - i).toNat = ((hlZ A hd 1).1 - (i + 1)).toNat + 1 := by omega
      rw [st]
      unfold fdS
      have h := xw_top (hd := [38]) 7 xD6_ok xc_X12_difference xa_X12_difference (t := 38) rfl h
      simp (maxDischargeDepth := 12) -implicitDefEqProofs [vb_X12_difference_0, vb_X12_difference_9, vb_X12_difference_36, vb_X12_difference_38, vb_X12_difference_65, xI_0, xI_1, xI_3, xI_6, xI_7, xI_14, xI_15, xI_36, xI_46, xI_49, xI_51, xI_61, xI_62, xw_X12_difference_0, xw_X12_difference_9, xw_X12_difference_36, xw_X12_difference_38, xw_X12_difference_65, zw_lit, xB_c, xB_s, xB_n, i1_c, j2_c, k1_c, jJ_e, xlg, xls, xla, xpd, ppush, zw_m1, zw_m2, zw_m3, gf_12_35, gf_12_36, gf_12_39, gf_12_40, tg_12_35, tg_12_36, tg_12_39, tg_12_40, gv_590_35, gv_590_36, gv_590_39, gv_590_40, xD1, xD2, xD3, xD4, xD5, xD6, xb1_0, hN, c, c', f, hA, zq1, zq2, zq3, zv, z1] at h
      obtain ⟨m, hm, h⟩ := h
      rw [be]
      exact ih m hm (i + 1) _ (by omega) (by omega) (by omega) (by omega) h
    · have c' : (hlZ A hd 1).1 ≤ i := by omega
      rw [show ((hlZ A hd 1).1 - i).toNat = 0 by omega]
      have h := xw_top (hd := [38]) 7 xD6_ok xc_X12_difference xa_X12_difference (t := 38) rfl h
      simp (maxDischargeDepth := 12) -implicitDefEqProofs [vb_X12_difference_0, vb_X12_difference_9, vb_X12_difference_36, vb_X12_difference_38, vb_X12_difference_65, xI_0, xI_1, xI_3, xI_6, xI_7, xI_14, xI_15, xI_36, xI_46, xI_49, xI_51, xI_61, xI_62, xw_X12_difference_0, xw_X12_difference_9, xw_X12_difference_36, xw_X12_difference_38, xw_X12_difference_65, zw_lit, xB_c, xB_s, xB_n, i1_c, j2_c, k1_c, jJ_e, xlg, xls, xla, xpd, ppush, zw_m1, zw_m2, zw_m3, gf_12_35, gf_12_36, gf_12_39, gf_12_40, tg_12_35, tg_12_36, tg_12_39, tg_12_40, gv_590_35, gv_590_36, gv_590_39, gv_590_40, xD1, xD2, xD3, xD4, xD5, xD6, xb1_0, hN, c, c'] at h
      exact h
set_option maxRecDepth 100000 in
theorem sp_X12_difference (hd : Int) (H : PH) (hB : MB (H 591)) (hX : OKX (H 591)) : SPEC 242 [(2, 590), (0, hd)] H (fun r H' => r = some (0, blQ (H 591) hd 0 - blQ (H 591) hd 1) ∧ HL (hlZ (H 591) hd 0) (H' 590 39) (H' 612) ∧ HL (hlZ (H 591) hd 1) (H' 590 40) (H' 613) ∧ SCm [612, 613] [39, 40] H H') := by
  intro E n res h
  have zi := hlZ_in hB hd 0
  have zj := hlZ_in hB hd 1
  have b0 := blQ_in (H 591) hd 0 hB.2.2.1
  have h := call_runP 4 vm_X12_difference h
  have h := xw_top (hd := [9, 38]) 7 xD6_ok xc_X12_difference xa_X12_difference (t := 0) rfl h
  simp (maxDischargeDepth := 12) -implicitDefEqProofs [vb_X12_difference_0, vb_X12_difference_9, vb_X12_difference_36, vb_X12_difference_38, vb_X12_difference_65, xI_0, xI_1, xI_3, xI_6, xI_7, xI_14, xI_15, xI_36, xI_46, xI_49, xI_51, xI_61, xI_62, xw_X12_difference_0, xw_X12_difference_9, xw_X12_difference_36, xw_X12_difference_38, xw_X12_difference_65, zw_lit, xB_c, xB_s, xB_n, i1_c, j2_c, k1_c, jJ_e, xlg, xls, xla, xpd, ppush, zw_m1, zw_m2, zw_m3, gf_12_35, gf_12_36, gf_12_39, gf_12_40, tg_12_35, tg_12_36, tg_12_39, tg_12_40, gv_590_35, gv_590_36, gv_590_39, gv_590_40, xD1, xD2, xD3, xD4, xD5, xD6, xb1_0] at h
  obtain ⟨r, H1, ⟨rfl, g1, g2, sc⟩, h⟩ := xc_use h (sp_X12_layHold hd H hB hX)
  have eA : H1 591 = H 591 := sc.1 591 (by decide) (by decide)
  simp (maxDischargeDepth := 12) -implicitDefEqProofs [vb_X12_difference_0, vb_X12_difference_9, vb_X12_difference_36, vb_X12_difference_38, vb_X12_difference_65, xI_0, xI_1, xI_3, xI_6, xI_7, xI_14, xI_15, xI_36, xI_46, xI_49, xI_51, xI_61, xI_62, xw_X12_difference_0, xw_X12_difference_9, xw_X12_difference_36, xw_X12_difference_38, xw_X12_difference_65, zw_lit, xB_c, xB_s, xB_n, i1_c, j2_c, k1_c, jJ_e, xlg, xls, xla, xpd, ppush, zw_m1, zw_m2, zw_m3, gf_12_35, gf_12_36, gf_12_39, gf_12_40, tg_12_35, tg_12_36, tg_12_39, tg_12_40, gv_590_35, gv_590_36, gv_590_39, gv_590_40, xD1, xD2, xD3, xD4, xD5, xD6, xb1_0] at h
  obtain ⟨m, hm, h⟩ := h
  obtain ⟨m2, hm2, h⟩ := lp_df1 (H 591) hB hX hd H1 eA g1 m 0 0 (by omega) zi.1 (by omega) (by omega) h
  rw [Int.sub_zero, hlZ_bl] at h
  have h : RUN E res m2 kd_X12_difference (zget kd_X12_difference 38) 38 [590, hd, blQ (H 591) hd 0 - 0, 0] [] H1 := by rw [Int.sub_zero]; exact h
  have h := lp_df2 (H 591) hB hX hd _ (by omega) H1 eA g2 m2 0 0 (by omega) zj.1 (by omega) (by omega) h
  rw [Int.sub_zero, hlZ_bl] at h
  exact ⟨_, H1, h, rfl, g1, g2, sc⟩
set_option maxRecDepth 100000 in
theorem sp_m_close (u : Int) (H : PH) (ok : OKR (H 591)) : SPEC 245 [(2, 590), (0, u)] H (fun r H' => r = some (0, clQ (H 591) u) ∧ MQs H H') := by
  intro E n' res h
  have a0 := ok.1.1
  have a2 := ok.1.2.2.1
  have os := ok.2.2.1
  unfold OKS at os
  have z0 : zw (H 591 0 - 1) = H 591 0 - 1 := zw_lit (by omega) (by omega)
  have z2 : zw (H 591 2 - 1) = H 591 2 - 1 := zw_lit (by omega) (by omega)
  have zmm : zw 4293967296 = -1000000 := by decide +kernel
  by_cases qu : 0 ≤ u ∧ u ≤ 4
  · have u0 := qu.1
    have u1 := qu.2
    have u2 : ¬ u < 0 := by omega
    have u3 : ¬ 4 < u := by omega
    have h := call_runP 2 vm_X12_close h
    have h := xw_top (hd := []) 5 xD6_ok xc_X12_close xa_X12_close (t := 0) rfl h
    simp (maxDischargeDepth := 12) -implicitDefEqProofs [vb_X12_close_0, vb_X12_close_15, vb_X12_close_18, xI_0, xI_1, xI_11, xI_36, xI_37, xI_60, xI_61, xI_62, xw_X12_close_0, xw_X12_close_15, xw_X12_close_18, zw_lit, xB_c, xB_s, xB_n, i1_c, j2_c, k1_c, jJ_e, xlg, xls, xla, xpd, ppush, zw_m1, zw_m2, zw_m3, xD1, xD2, xD3, xD4, xD5, xD6, xb1_0, u0, u1, u2, u3] at h
    obtain ⟨r, H1, ⟨rfl, _, _, sc⟩, g⟩ := xc_use h (sp_X12_difference u H ok.1 ok.2.2.2)
    simp (maxDischargeDepth := 12) -implicitDefEqProofs [vb_X12_close_0, vb_X12_close_15, vb_X12_close_18, xI_0, xI_1, xI_11, xI_36, xI_37, xI_60, xI_61, xI_62, xw_X12_close_0, xw_X12_close_15, xw_X12_close_18, zw_lit, xB_c, xB_s, xB_n, i1_c, j2_c, k1_c, jJ_e, xlg, xls, xla, xpd, ppush, zw_m1, zw_m2, zw_m3, xD1, xD2, xD3, xD4, xD5, xD6, xb1_0] at g
    exact ⟨_, H1, g, by unfold clQ; rw [if_pos (by omega)], MQs_SC sc (by decide) (by decide)⟩
  · by_cases u0 : 0 ≤ u
    · have u1 : ¬ u ≤ 4 := by omega
      have u2 : ¬ u < 0 := by omega
      have u3 : 4 < u := by omega
      have h := call_runP 2 vm_X12_close h
      have h := xw_top (hd := []) 5 xD6_ok xc_X12_close xa_X12_close (t := 0) rfl h
      simp (maxDischargeDepth := 12) -implicitDefEqProofs [vb_X12_close_0, vb_X12_close_15, vb_X12_close_18, xI_0, xI_1, xI_11, xI_36, xI_37, xI_60, xI_61, xI_62, xw_X12_close_0, xw_X12_close_15, xw_X12_close_18, zw_lit, xB_c, xB_s, xB_n, i1_c, j2_c, k1_c, jJ_e, xlg, xls, xla, xpd, ppush, zw_m1, zw_m2, zw_m3, xD1, xD2, xD3, xD4, xD5, xD6, xb1_0, zmm, u0, u1, u2, u3] at h
      exact ⟨_, H, h, by unfold clQ; rw [if_neg (by omega)], MQs_refl⟩
    · have u2 : u < 0 := by omega
      have h := call_runP 2 vm_X12_close h
      have h := xw_top (hd := []) 5 xD6_ok xc_X12_close xa_X12_close (t := 0) rfl h
      simp (maxDischargeDepth := 12) -implicitDefEqProofs [vb_X12_close_0, vb_X12_close_15, vb_X12_close_18, xI_0, xI_1, xI_11, xI_36, xI_37, xI_60, xI_61, xI_62, xw_X12_close_0, xw_X12_close_15, xw_X12_close_18, zw_lit, xB_c, xB_s, xB_n, i1_c, j2_c, k1_c, jJ_e, xlg, xls, xla, xpd, ppush, zw_m1, zw_m2, zw_m3, xD1, xD2, xD3, xD4, xD5, xD6, xb1_0, zmm, u0, u2] at h
      exact ⟨_, H, h, by unfold clQ; rw [if_neg (by omega)], MQs_refl⟩
/-! a line whose mark stands ahead of it in its hold -/
set_option maxRecDepth 100000 in
theorem lp_ag (A : Int → Int) (hB : MB A) (k : Int) (hk : 0 ≤ k ∧ k < A 2) (H : PH) (hA : H 591 = A) {E : xE} {res : xR} : ∀ (n : Nat) (i : Int), 0 ≤ i → i ≤ k → RUN E res n kd_X12_isAgain (zget kd_X12_isAgain 2) 2 [590, k, i] [] H → REPR E res (some (0, if fsF A k (A (404 + 12 * k + 1)) (k - i).toNat i = true then 0 else 1)) H := by
  intro n
  induction n using Nat.strongRecOn with
  | _ n ih =>
    intro i i0 i1 h
    have a2 := hB.2.2.1
    have z1 : zw (i + 1) = i + 1 := zw_lit (by omega) (by omega)
    have zi1 : zw (12 * i) = 12 * i := zw_lit (by omega) (by omega)
    have zi2 : zw (404 + 12 * i) = 404 + 12 * i := zw_lit (by omega) (by omega)
    have zi3 : zw (404 + 12 * i + 1) = 404 + 12 * i + 1 := zw_lit (by omega) (by omega)
    have zi4 : zw (404 + 12 * i + 3) = 404 + 12 * i + 3 := zw_lit (by omega) (by omega)
    have zi5 : zw (404 + 12 * i + 4) = 404 + 12 * i + 4 := zw_lit (by omega) (by omega)
    have zk1 : zw (12 * k) = 12 * k := zw_lit (by omega) (by omega)
    have zk2 : zw (404 + 12 * k) = 404 + 12 * k := zw_lit (by omega) (by omega)
    have zk3 : zw (404 + 12 * k + 1) = 404 + 12 * k + 1 := zw_lit (by omega) (by omega)
    have zk4 : zw (404 + 12 * k + 3) = 404 + 12 * k + 3 := zw_lit (by omega) (by omega)
    have zk5 : zw (404 + 12 * k + 4) = 404 + 12 * k + 4 := zw_lit (by omega) (by omega)
    by_cases c : i < k
    · have c' : ¬ k ≤ i := by omega
      have st : (k - i).toNat = (k - (i + 1)).toNat + 1 := by omega
      have kk := hB.2.2.2.2.2.1 k hk.1 (by omega)
      have ki := hB.2.2.2.2.2.1 i i0 (by omega)
      rw [st]
      unfold fsF
      by_cases q : A (404 + 12 * i + 1) = A (404 + 12 * k + 1)
      · have h := xw_top (hd := [2]) 6 xD6_ok xc_X12_isAgain xa_X12_isAgain (t := 2) rfl h
        simp (maxDischargeDepth := 12) -implicitDefEqProofs [vb_X12_isAgain_0, vb_X12_isAgain_2, vb_X12_isAgain_65, vb_X12_isAgain_71, xI_0, xI_1, xI_3, xI_6, xI_7, xI_14, xI_36, xI_37, xI_44, xI_46, xI_49, xI_51, xI_60, xI_61, xI_62, xw_X12_isAgain_0, xw_X12_isAgain_2, xw_X12_isAgain_65, xw_X12_isAgain_71, zw_lit, xB_c, xB_s, xB_n, i1_c, j2_c, k1_c, jJ_e, xlg, xls, xla, xpd, ppush, zw_m1, zw_m2, zw_m3, gf_12_0, tg_12_0, gv_590_0, xD1, xD2, xD3, xD4, xD5, xD6, xb1_0, hA, c, c', zi1, zi2, zi3, zi4, zi5, zk1, zk2, zk3, zk4, zk5, q] at h
        obtain ⟨r, H1, ⟨v, rfl, rfl, hv⟩, g⟩ := xc_use h (sp_X12_isSame _ _ _ _ H (by omega) (by rw [hA]; exact ki))
        rw [hA] at hv
        have hs : smL A i k = true ↔ smA A (404 + 12 * i + 3) (404 + 12 * i + 4) (404 + 12 * k + 3) (404 + 12 * k + 4) := smL_iff ki.1
        rcases hv with ⟨rfl, hv⟩ | ⟨rfl, hv⟩
        · have ef : (if A (404 + 12 * i + 1) = A (404 + 12 * k + 1) ∧ smL A i k = true then false else fsF A k (A (404 + 12 * k + 1)) (k - (i + 1)).toNat (i + 1)) = false := if_pos ⟨q, hs.mpr hv⟩
          rw [ef]
          simp (maxDischargeDepth := 12) -implicitDefEqProofs [vb_X12_isAgain_0, vb_X12_isAgain_2, vb_X12_isAgain_65, vb_X12_isAgain_71, xI_0, xI_1, xI_3, xI_6, xI_7, xI_14, xI_36, xI_37, xI_44, xI_46, xI_49, xI_51, xI_60, xI_61, xI_62, xw_X12_isAgain_0, xw_X12_isAgain_2, xw_X12_isAgain_65, xw_X12_isAgain_71, zw_lit, xB_c, xB_s, xB_n, i1_c, j2_c, k1_c, jJ_e, xlg, xls, xla, xpd, ppush, zw_m1, zw_m2, zw_m3, gf_12_0, tg_12_0, gv_590_0, xD1, xD2, xD3, xD4, xD5, xD6, xb1_0] at g
          exact g
        · have ef : (if A (404 + 12 * i + 1) = A (404 + 12 * k + 1) ∧ smL A i k = true then false else fsF A k (A (404 + 12 * k + 1)) (k - (i + 1)).toNat (i + 1)) = fsF A k (A (404 + 12 * k + 1)) (k - (i + 1)).toNat (i + 1) := if_neg (fun w => hv (hs.mp w.2))
          rw [ef]
          simp (maxDischargeDepth := 12) -implicitDefEqProofs [vb_X12_isAgain_0, vb_X12_isAgain_2, vb_X12_isAgain_65, vb_X12_isAgain_71, xI_0, xI_1, xI_3, xI_6, xI_7, xI_14, xI_36, xI_37, xI_44, xI_46, xI_49, xI_51, xI_60, xI_61, xI_62, xw_X12_isAgain_0, xw_X12_isAgain_2, xw_X12_isAgain_65, xw_X12_isAgain_71, zw_lit, xB_c, xB_s, xB_n, i1_c, j2_c, k1_c, jJ_e, xlg, xls, xla, xpd, ppush, zw_m1, zw_m2, zw_m3, gf_12_0, tg_12_0, gv_590_0, xD1, xD2, xD3, xD4, xD5, xD6, xb1_0, z1] at g
          obtain ⟨m, hm, g⟩ := g
          exact ih m hm (i + 1) (by omega) (by omega) g
      · have h := xw_top (hd := [2]) 6 xD6_ok xc_X12_isAgain xa_X12_isAgain (t := 2) rfl h
        simp (maxDischargeDepth := 12) -implicitDefEqProofs [vb_X12_isAgain_0, vb_X12_isAgain_2, vb_X12_isAgain_65, vb_X12_isAgain_71, xI_0, xI_1, xI_3, xI_6, xI_7, xI_14, xI_36, xI_37, xI_44, xI_46, xI_49, xI_51, xI_60, xI_61, xI_62, xw_X12_isAgain_0, xw_X12_isAgain_2, xw_X12_isAgain_65, xw_X12_isAgain_71, zw_lit, xB_c, xB_s, xB_n, i1_c, j2_c, k1_c, jJ_e, xlg, xls, xla, xpd, ppush, zw_m1, zw_m2, zw_m3, gf_12_0, tg_12_0, gv_590_0, xD1, xD2, xD3, xD4, xD5, xD6, xb1_0, hA, c, c', zi1, zi2, zi3, zk1, zk2, zk3, q, z1] at h
        obtain ⟨m, hm, h⟩ := h
        have ef : (if A (404 + 12 * i + 1) = A (404 + 12 * k + 1) ∧ smL A i k = true then false else fsF A k (A (404 + 12 * k + 1)) (k - (i + 1)).toNat (i + 1)) = fsF A k (A (404 + 12 * k + 1)) (k - (i + 1)).toNat (i + 1) := if_neg (fun w => q w.1)
        rw [ef]
        exact ih m hm (i + 1) (by omega) (by omega) h
    · have c' : k ≤ i := by omega
      rw [show (k - i).toNat = 0 by omega]
      have h := xw_top (hd := [2]) 6 xD6_ok xc_X12_isAgain xa_X12_isAgain (t := 2) rfl h
      simp (maxDischargeDepth := 12) -implicitDefEqProofs [vb_X12_isAgain_0, vb_X12_isAgain_2, vb_X12_isAgain_65, vb_X12_isAgain_71, xI_0, xI_1, xI_3, xI_6, xI_7, xI_14, xI_36, xI_37, xI_44, xI_46, xI_49, xI_51, xI_60, xI_61, xI_62, xw_X12_isAgain_0, xw_X12_isAgain_2, xw_X12_isAgain_65, xw_X12_isAgain_71, zw_lit, xB_c, xB_s, xB_n, i1_c, j2_c, k1_c, jJ_e, xlg, xls, xla, xpd, ppush, zw_m1, zw_m2, zw_m3, gf_12_0, tg_12_0, gv_590_0, xD1, xD2, xD3, xD4, xD5, xD6, xb1_0, c, c'] at h
      exact h
theorem sp_X12_isAgain (k : Int) (H : PH) (hB : MB (H 591)) (hk : 0 ≤ k ∧ k < H 591 2) : SPEC 243 [(2, 590), (0, k)] H (fun r H' => r = some (0, if fsF (H 591) k (H 591 (404 + 12 * k + 1)) k.toNat 0 = true then 0 else 1) ∧ H' = H) := by
  intro E n res h
  have h := call_runP 3 vm_X12_isAgain h
  have h := xw_top (hd := [2]) 6 xD6_ok xc_X12_isAgain xa_X12_isAgain (t := 0) rfl h
  simp (maxDischargeDepth := 12) -implicitDefEqProofs [vb_X12_isAgain_0, vb_X12_isAgain_2, vb_X12_isAgain_65, vb_X12_isAgain_71, xI_0, xI_1, xI_3, xI_6, xI_7, xI_14, xI_36, xI_37, xI_44, xI_46, xI_49, xI_51, xI_60, xI_61, xI_62, xw_X12_isAgain_0, xw_X12_isAgain_2, xw_X12_isAgain_65, xw_X12_isAgain_71, zw_lit, xB_c, xB_s, xB_n, i1_c, j2_c, k1_c, jJ_e, xlg, xls, xla, xpd, ppush, zw_m1, zw_m2, zw_m3, gf_12_0, tg_12_0, gv_590_0, xD1, xD2, xD3, xD4, xD5, xD6, xb1_0] at h
  obtain ⟨m, hm, h⟩ := h
  have g := lp_ag (H 591) hB k hk H rfl m 0 (by omega) hk.1 h
  rw [Int.sub_zero] at g
  exact ⟨_, H, g, rfl, rfl⟩
set_option maxRecDepth 100000 in
theorem lp_ho4 (A : Int → Int) (hB : MB A) (hd : Int) {E : xE} {res : xR} : ∀ (n : Nat) (k v : Int) (H : PH), 0 ≤ k → k ≤ A 2 → 0 ≤ v → v ≤ k → H 591 = A → RUN E res n kd_X12_hold (zget kd_X12_hold 101) 101 [590, hd, 4, v, k] [] H → ∃ H' : PH, SCm [599] [17, 18, 19] H H' ∧ REPR E res (some (0, fdS (fun k => if A (404 + 12 * k + 1) = hd ∧ fsF A k hd k.toNat 0 = true then 1 else 0) (A 2 - k).toNat k v)) H' := by
  intro n
  induction n using Nat.strongRecOn with
  | _ n ih =>
    intro k v H k0 k1 v0 v1 hA h
    have a2 := hB.2.2.1
    have zk1 : zw (12 * k) = 12 * k := zw_lit (by omega) (by omega)
    have zk2 : zw (404 + 12 * k) = 404 + 12 * k := zw_lit (by omega) (by omega)
    have zk3 : zw (404 + 12 * k + 1) = 404 + 12 * k + 1 := zw_lit (by omega) (by omega)
    have zk0 : zw (404 + 12 * k + 0) = 404 + 12 * k := by rw [Int.add_zero]; exact zk2
    have zk4 : zw (k + 1) = k + 1 := zw_lit (by omega) (by omega)
    have zv : zw (v + 1) = v + 1 := zw_lit (by omega) (by omega)
    have zv0 : zw (v + 0) = v := by rw [Int.add_zero]; exact zw_lit (by omega) (by omega)
    have zv1 : zw v = v := zw_lit (by omega) (by omega)
    by_cases c : k < A 2
    · have c' : ¬ A 2 ≤ k := by omega
      have st : (A 2 - k).toNat = (A 2 - (k + 1)).toNat + 1 := by omega
      rw [st]
      unfold fdS
      by_cases q : A (404 + 12 * k + 1) = hd
      · have h := xw_top (hd := [101]) 20 xD6_ok xc_X12_hold xa_X12_hold (t := 101) rfl h
        simp (maxDischargeDepth := 12) -implicitDefEqProofs [vb_X12_hold_0, vb_X12_hold_16, vb_X12_hold_18, vb_X12_hold_28, vb_X12_hold_61, vb_X12_hold_64, vb_X12_hold_98, vb_X12_hold_101, vb_X12_hold_136, vb_X12_hold_154, vb_X12_hold_163, vb_X12_hold_167, vb_X12_hold_168, vb_X12_hold_170, vb_X12_hold_176, vb_X12_hold_188, vb_X12_hold_200, vb_X12_hold_201, xI_0, xI_1, xI_3, xI_6, xI_7, xI_14, xI_36, xI_37, xI_38, xI_39, xI_43, xI_44, xI_46, xI_48, xI_49, xI_51, xI_60, xI_61, xI_62, xw_X12_hold_0, xw_X12_hold_16, xw_X12_hold_18, xw_X12_hold_28, xw_X12_hold_61, xw_X12_hold_64, xw_X12_hold_98, xw_X12_hold_101, xw_X12_hold_136, xw_X12_hold_154, xw_X12_hold_163, xw_X12_hold_167, xw_X12_hold_168, xw_X12_hold_170, xw_X12_hold_176, xw_X12_hold_188, xw_X12_hold_200, xw_X12_hold_201, zw_lit, xB_c, xB_s, xB_n, i1_c, j2_c, k1_c, jJ_e, xlg, xls, xla, xpd, ppush, zw_m1, zw_m2, zw_m3, gf_12_0, gf_12_35, gf_12_36, gf_12_39, gf_12_40, tg_12_0, tg_12_35, tg_12_36, tg_12_39, tg_12_40, gv_590_0, gv_590_35, gv_590_36, gv_590_39, gv_590_40, xD1, xD2, xD3, xD4, xD5, xD6, xb1_0, hA, c, c', zk1, zk2, zk3, zk4, q] at h
        obtain ⟨r, H1, ⟨rfl, rfl⟩, g⟩ := xc_use h (sp_X12_isAgain k _ (by rw [hA]; exact hB) ⟨k0, by rw [hA]; exact c⟩)
        rw [hA, q] at g
        by_cases f : fsF A k hd k.toNat 0 = true
        · rw [if_pos f] at g
          simp (maxDischargeDepth := 12) -implicitDefEqProofs [vb_X12_hold_0, vb_X12_hold_16, vb_X12_hold_18, vb_X12_hold_28, vb_X12_hold_61, vb_X12_hold_64, vb_X12_hold_98, vb_X12_hold_101, vb_X12_hold_136, vb_X12_hold_154, vb_X12_hold_163, vb_X12_hold_167, vb_X12_hold_168, vb_X12_hold_170, vb_X12_hold_176, vb_X12_hold_188, vb_X12_hold_200, vb_X12_hold_201, xI_0, xI_1, xI_3, xI_6, xI_7, xI_14, xI_36, xI_37, xI_38, xI_39, xI_43, xI_44, xI_46, xI_48, xI_49, xI_51, xI_60, xI_61, xI_62, xw_X12_hold_0, xw_X12_hold_16, xw_X12_hold_18, xw_X12_hold_28, xw_X12_hold_61, xw_X12_hold_64, xw_X12_hold_98, xw_X12_hold_101, xw_X12_hold_136, xw_X12_hold_154, xw_X12_hold_163, xw_X12_hold_167, xw_X12_hold_168, xw_X12_hold_170, xw_X12_hold_176, xw_X12_hold_188, xw_X12_hold_200, xw_X12_hold_201, zw_lit, xB_c, xB_s, xB_n, i1_c, j2_c, k1_c, jJ_e, xlg, xls, xla, xpd, ppush, zw_m1, zw_m2, zw_m3, gf_12_0, gf_12_35, gf_12_36, gf_12_39, gf_12_40, tg_12_0, tg_12_35, tg_12_36, tg_12_39, tg_12_40, gv_590_0, gv_590_35, gv_590_36, gv_590_39, gv_590_40, xD1, xD2, xD3, xD4, xD5, xD6, xb1_0, zk4, zv, zv0, zv1] at g
          obtain ⟨m, hm, g⟩ := g
          rw [if_pos ⟨q, f⟩]
          exact ih m hm (k + 1) _ _ (by omega) (by omega) (by omega) (by omega) hA g
        · rw [if_neg f] at g
          simp (maxDischargeDepth := 12) -implicitDefEqProofs [vb_X12_hold_0, vb_X12_hold_16, vb_X12_hold_18, vb_X12_hold_28, vb_X12_hold_61, vb_X12_hold_64, vb_X12_hold_98, vb_X12_hold_101, vb_X12_hold_136, vb_X12_hold_154, vb_X12_hold_163, vb_X12_hold_167, vb_X12_hold_168, vb_X12_hold_170, vb_X12_hold_176, vb_X12_hold_188, vb_X12_hold_200, vb_X12_hold_201, xI_0, xI_1, xI_3, xI_6, xI_7, xI_14, xI_36, xI_37, xI_38, xI_39, xI_43, xI_44, xI_46, xI_48, xI_49, xI_51, xI_60, xI_61, xI_62, xw_X12_hold_0, xw_X12_hold_16, xw_X12_hold_18, xw_X12_hold_28, xw_X12_hold_61, xw_X12_hold_64, xw_X12_hold_98, xw_X12_hold_101, xw_X12_hold_136, xw_X12_hold_154, xw_X12_hold_163, xw_X12_hold_167, xw_X12_hold_168, xw_X12_hold_170, xw_X12_hold_176, xw_X12_hold_188, xw_X12_hold_200, xw_X12_hold_201, zw_lit, xB_c, xB_s, xB_n, i1_c, j2_c, k1_c, jJ_e, xlg, xls, xla, xpd, ppush, zw_m1, zw_m2, zw_m3, gf_12_0, gf_12_35, gf_12_36, gf_12_39, gf_12_40, tg_12_0, tg_12_35, tg_12_36, tg_12_39, tg_12_40, gv_590_0, gv_590_35, gv_590_36, gv_590_39, gv_590_40, xD1, xD2, xD3, xD4, xD5, xD6, xb1_0, zk4, zv, zv0, zv1] at g
          obtain ⟨m, hm, g⟩ := g
          rw [if_neg (fun w => f w.2), Int.add_zero]
          exact ih m hm (k + 1) _ _ (by omega) (by omega) (by omega) (by omega) hA g
      · have h := xw_top (hd := [101]) 20 xD6_ok xc_X12_hold xa_X12_hold (t := 101) rfl h
        simp (maxDischargeDepth := 12) -implicitDefEqProofs [vb_X12_hold_0, vb_X12_hold_16, vb_X12_hold_18, vb_X12_hold_28, vb_X12_hold_61, vb_X12_hold_64, vb_X12_hold_98, vb_X12_hold_101, vb_X12_hold_136, vb_X12_hold_154, vb_X12_hold_163, vb_X12_hold_167, vb_X12_hold_168, vb_X12_hold_170, vb_X12_hold_176, vb_X12_hold_188, vb_X12_hold_200, vb_X12_hold_201, xI_0, xI_1, xI_3, xI_6, xI_7, xI_14, xI_36, xI_37, xI_38, xI_39, xI_43, xI_44, xI_46, xI_48, xI_49, xI_51, xI_60, xI_61, xI_62, xw_X12_hold_0, xw_X12_hold_16, xw_X12_hold_18, xw_X12_hold_28, xw_X12_hold_61, xw_X12_hold_64, xw_X12_hold_98, xw_X12_hold_101, xw_X12_hold_136, xw_X12_hold_154, xw_X12_hold_163, xw_X12_hold_167, xw_X12_hold_168, xw_X12_hold_170, xw_X12_hold_176, xw_X12_hold_188, xw_X12_hold_200, xw_X12_hold_201, zw_lit, xB_c, xB_s, xB_n, i1_c, j2_c, k1_c, jJ_e, xlg, xls, xla, xpd, ppush, zw_m1, zw_m2, zw_m3, gf_12_0, gf_12_35, gf_12_36, gf_12_39, gf_12_40, tg_12_0, tg_12_35, tg_12_36, tg_12_39, tg_12_40, gv_590_0, gv_590_35, gv_590_36, gv_590_39, gv_590_40, xD1, xD2, xD3, xD4, xD5, xD6, xb1_0, hA, c, c', zk1, zk2, zk3, zk4, q] at h
        obtain ⟨m, hm, h⟩ := h
        rw [if_neg (fun w => q w.1), Int.add_zero]
        exact ih m hm (k + 1) v H (by omega) (by omega) (by omega) (by omega) hA h
    · have c' : A 2 ≤ k := by omega
      rw [show (A 2 - k).toNat = 0 by omega]
      have h := xw_top (hd := [101]) 20 xD6_ok xc_X12_hold xa_X12_hold (t := 101) rfl h
      simp (maxDischargeDepth := 12) -implicitDefEqProofs [vb_X12_hold_0, vb_X12_hold_16, vb_X12_hold_18, vb_X12_hold_28, vb_X12_hold_61, vb_X12_hold_64, vb_X12_hold_98, vb_X12_hold_101, vb_X12_hold_136, vb_X12_hold_154, vb_X12_hold_163, vb_X12_hold_167, vb_X12_hold_168, vb_X12_hold_170, vb_X12_hold_176, vb_X12_hold_188, vb_X12_hold_200, vb_X12_hold_201, xI_0, xI_1, xI_3, xI_6, xI_7, xI_14, xI_36, xI_37, xI_38, xI_39, xI_43, xI_44, xI_46, xI_48, xI_49, xI_51, xI_60, xI_61, xI_62, xw_X12_hold_0, xw_X12_hold_16, xw_X12_hold_18, xw_X12_hold_28, xw_X12_hold_61, xw_X12_hold_64, xw_X12_hold_98, xw_X12_hold_101, xw_X12_hold_136, xw_X12_hold_154, xw_X12_hold_163, xw_X12_hold_167, xw_X12_hold_168, xw_X12_hold_170, xw_X12_hold_176, xw_X12_hold_188, xw_X12_hold_200, xw_X12_hold_201, zw_lit, xB_c, xB_s, xB_n, i1_c, j2_c, k1_c, jJ_e, xlg, xls, xla, xpd, ppush, zw_m1, zw_m2, zw_m3, gf_12_0, gf_12_35, gf_12_36, gf_12_39, gf_12_40, tg_12_0, tg_12_35, tg_12_36, tg_12_39, tg_12_40, gv_590_0, gv_590_35, gv_590_36, gv_590_39, gv_590_40, xD1, xD2, xD3, xD4, xD5, xD6, xb1_0, hA, c, c'] at h
      exact ⟨H, SCm_refl, h⟩
set_option maxRecDepth 100000 in
theorem lp_ho5 (A : Int → Int) (hB : MB A) (hd : Int) {E : xE} {res : xR} : ∀ (n : Nat) (k v : Int) (H : PH), 0 ≤ k → k ≤ A 2 → 0 ≤ v → v ≤ k → H 591 = A → RUN E res n kd_X12_hold (zget kd_X12_hold 101) 101 [590, hd, 5, v, k] [] H → ∃ H' : PH, SCm [599] [17, 18, 19] H H' ∧ REPR E res (some (0, fdS (fun k => if A (404 + 12 * k + 1) = hd ∧ rdL A k < 0 then 1 else 0) (A 2 - k).toNat k v)) H' := by
  intro n
  induction n using Nat.strongRecOn with
  | _ n ih =>
    intro k v H k0 k1 v0 v1 hA h
    have a2 := hB.2.2.1
    have zk1 : zw (12 * k) = 12 * k := zw_lit (by omega) (by omega)
    have zk2 : zw (404 + 12 * k) = 404 + 12 * k := zw_lit (by omega) (by omega)
    have zk3 : zw (404 + 12 * k + 1) = 404 + 12 * k + 1 := zw_lit (by omega) (by omega)
    have zk0 : zw (404 + 12 * k + 0) = 404 + 12 * k := by rw [Int.add_zero]; exact zk2
    have zk4 : zw (k + 1) = k + 1 := zw_lit (by omega) (by omega)
    have zv : zw (v + 1) = v + 1 := zw_lit (by omega) (by omega)
    have zv0 : zw (v + 0) = v := by rw [Int.add_zero]; exact zw_lit (by omega) (by omega)
    have zv1 : zw v = v := zw_lit (by omega) (by omega)
    by_cases c : k < A 2
    · have c' : ¬ A 2 ≤ k := by omega
      have st : (A 2 - k).toNat = (A 2 - (k + 1)).toNat + 1 := by omega
      rw [st]
      unfold fdS
      by_cases q : A (404 + 12 * k + 1) = hd
      · have h := xw_top (hd := [101]) 20 xD6_ok xc_X12_hold xa_X12_hold (t := 101) rfl h
        simp (maxDischargeDepth := 12) -implicitDefEqProofs [vb_X12_hold_0, vb_X12_hold_16, vb_X12_hold_18, vb_X12_hold_28, vb_X12_hold_61, vb_X12_hold_64, vb_X12_hold_98, vb_X12_hold_101, vb_X12_hold_136, vb_X12_hold_154, vb_X12_hold_163, vb_X12_hold_167, vb_X12_hold_168, vb_X12_hold_170, vb_X12_hold_176, vb_X12_hold_188, vb_X12_hold_200, vb_X12_hold_201, xI_0, xI_1, xI_3, xI_6, xI_7, xI_14, xI_36, xI_37, xI_38, xI_39, xI_43, xI_44, xI_46, xI_48, xI_49, xI_51, xI_60, xI_61, xI_62, xw_X12_hold_0, xw_X12_hold_16, xw_X12_hold_18, xw_X12_hold_28, xw_X12_hold_61, xw_X12_hold_64, xw_X12_hold_98, xw_X12_hold_101, xw_X12_hold_136, xw_X12_hold_154, xw_X12_hold_163, xw_X12_hold_167, xw_X12_hold_168, xw_X12_hold_170, xw_X12_hold_176, xw_X12_hold_188, xw_X12_hold_200, xw_X12_hold_201, zw_lit, xB_c, xB_s, xB_n, i1_c, j2_c, k1_c, jJ_e, xlg, xls, xla, xpd, ppush, zw_m1, zw_m2, zw_m3, gf_12_0, gf_12_35, gf_12_36, gf_12_39, gf_12_40, tg_12_0, tg_12_35, tg_12_36, tg_12_39, tg_12_40, gv_590_0, gv_590_35, gv_590_36, gv_590_39, gv_590_40, xD1, xD2, xD3, xD4, xD5, xD6, xb1_0, hA, c, c', zk1, zk2, zk3, zk4, q] at h
        obtain ⟨r, H1, ⟨rfl, sc⟩, g⟩ := xc_use h (sp_X12_lineRead k H (by rw [hA]; exact hB) ⟨k0, by omega⟩)
        rw [hA] at g
        have eA : H1 591 = A := (sc.1 591 (by decide) (by decide)).trans hA
        by_cases f : rdL A k < 0
        · have f' : ¬ 0 ≤ rdL A k := by omega
          simp (maxDischargeDepth := 12) -implicitDefEqProofs [vb_X12_hold_0, vb_X12_hold_16, vb_X12_hold_18, vb_X12_hold_28, vb_X12_hold_61, vb_X12_hold_64, vb_X12_hold_98, vb_X12_hold_101, vb_X12_hold_136, vb_X12_hold_154, vb_X12_hold_163, vb_X12_hold_167, vb_X12_hold_168, vb_X12_hold_170, vb_X12_hold_176, vb_X12_hold_188, vb_X12_hold_200, vb_X12_hold_201, xI_0, xI_1, xI_3, xI_6, xI_7, xI_14, xI_36, xI_37, xI_38, xI_39, xI_43, xI_44, xI_46, xI_48, xI_49, xI_51, xI_60, xI_61, xI_62, xw_X12_hold_0, xw_X12_hold_16, xw_X12_hold_18, xw_X12_hold_28, xw_X12_hold_61, xw_X12_hold_64, xw_X12_hold_98, xw_X12_hold_101, xw_X12_hold_136, xw_X12_hold_154, xw_X12_hold_163, xw_X12_hold_167, xw_X12_hold_168, xw_X12_hold_170, xw_X12_hold_176, xw_X12_hold_188, xw_X12_hold_200, xw_X12_hold_201, zw_lit, xB_c, xB_s, xB_n, i1_c, j2_c, k1_c, jJ_e, xlg, xls, xla, xpd, ppush, zw_m1, zw_m2, zw_m3, gf_12_0, gf_12_35, gf_12_36, gf_12_39, gf_12_40, tg_12_0, tg_12_35, tg_12_36, tg_12_39, tg_12_40, gv_590_0, gv_590_35, gv_590_36, gv_590_39, gv_590_40, xD1, xD2, xD3, xD4, xD5, xD6, xb1_0, zk4, zv, zv0, zv1, f, f'] at g
          obtain ⟨m, hm, g⟩ := g
          rw [if_pos ⟨q, f⟩]
          obtain ⟨H', s2, g⟩ := ih m hm (k + 1) _ _ (by omega) (by omega) (by omega) (by omega) eA g
          exact ⟨H', SCm_trans sc s2, g⟩
        · have f' : 0 ≤ rdL A k := by omega
          simp (maxDischargeDepth := 12) -implicitDefEqProofs [vb_X12_hold_0, vb_X12_hold_16, vb_X12_hold_18, vb_X12_hold_28, vb_X12_hold_61, vb_X12_hold_64, vb_X12_hold_98, vb_X12_hold_101, vb_X12_hold_136, vb_X12_hold_154, vb_X12_hold_163, vb_X12_hold_167, vb_X12_hold_168, vb_X12_hold_170, vb_X12_hold_176, vb_X12_hold_188, vb_X12_hold_200, vb_X12_hold_201, xI_0, xI_1, xI_3, xI_6, xI_7, xI_14, xI_36, xI_37, xI_38, xI_39, xI_43, xI_44, xI_46, xI_48, xI_49, xI_51, xI_60, xI_61, xI_62, xw_X12_hold_0, xw_X12_hold_16, xw_X12_hold_18, xw_X12_hold_28, xw_X12_hold_61, xw_X12_hold_64, xw_X12_hold_98, xw_X12_hold_101, xw_X12_hold_136, xw_X12_hold_154, xw_X12_hold_163, xw_X12_hold_167, xw_X12_hold_168, xw_X12_hold_170, xw_X12_hold_176, xw_X12_hold_188, xw_X12_hold_200, xw_X12_hold_201, zw_lit, xB_c, xB_s, xB_n, i1_c, j2_c, k1_c, jJ_e, xlg, xls, xla, xpd, ppush, zw_m1, zw_m2, zw_m3, gf_12_0, gf_12_35, gf_12_36, gf_12_39, gf_12_40, tg_12_0, tg_12_35, tg_12_36, tg_12_39, tg_12_40, gv_590_0, gv_590_35, gv_590_36, gv_590_39, gv_590_40, xD1, xD2, xD3, xD4, xD5, xD6, xb1_0, zk4, zv, zv0, zv1, f, f'] at g
          obtain ⟨m, hm, g⟩ := g
          rw [if_neg (fun w => f w.2), Int.add_zero]
          obtain ⟨H', s2, g⟩ := ih m hm (k + 1) _ _ (by omega) (by omega) (by omega) (by omega) eA g
          exact ⟨H', SCm_trans sc s2, g⟩
      · have h := xw_top (hd := [101]) 20 xD6_ok xc_X12_hold xa_X12_hold (t := 101) rfl h
        simp (maxDischargeDepth := 12) -implicitDefEqProofs [vb_X12_hold_0, vb_X12_hold_16, vb_X12_hold_18, vb_X12_hold_28, vb_X12_hold_61, vb_X12_hold_64, vb_X12_hold_98, vb_X12_hold_101, vb_X12_hold_136, vb_X12_hold_154, vb_X12_hold_163, vb_X12_hold_167, vb_X12_hold_168, vb_X12_hold_170, vb_X12_hold_176, vb_X12_hold_188, vb_X12_hold_200, vb_X12_hold_201, xI_0, xI_1, xI_3, xI_6, xI_7, xI_14, xI_36, xI_37, xI_38, xI_39, xI_43, xI_44, xI_46, xI_48, xI_49, xI_51, xI_60, xI_61, xI_62, xw_X12_hold_0, xw_X12_hold_16, xw_X12_hold_18, xw_X12_hold_28, xw_X12_hold_61, xw_X12_hold_64, xw_X12_hold_98, xw_X12_hold_101, xw_X12_hold_136, xw_X12_hold_154, xw_X12_hold_163, xw_X12_hold_167, xw_X12_hold_168, xw_X12_hold_170, xw_X12_hold_176, xw_X12_hold_188, xw_X12_hold_200, xw_X12_hold_201, zw_lit, xB_c, xB_s, xB_n, i1_c, j2_c, k1_c, jJ_e, xlg, xls, xla, xpd, ppush, zw_m1, zw_m2, zw_m3, gf_12_0, gf_12_35, gf_12_36, gf_12_39, gf_12_40, tg_12_0, tg_12_35, tg_12_36, tg_12_39, tg_12_40, gv_590_0, gv_590_35, gv_590_36, gv_590_39, gv_590_40, xD1, xD2, xD3, xD4, xD5, xD6, xb1_0, hA, c, c', zk1, zk2, zk3, zk4, q] at h
        obtain ⟨m, hm, h⟩ := h
        rw [if_neg (fun w => q w.1), Int.add_zero]
        exact ih m hm (k + 1) v H (by omega) (by omega) (by omega) (by omega) hA h
    · have c' : A 2 ≤ k := by omega
      rw [show (A 2 - k).toNat = 0 by omega]
      have h := xw_top (hd := [101]) 20 xD6_ok xc_X12_hold xa_X12_hold (t := 101) rfl h
      simp (maxDischargeDepth := 12) -implicitDefEqProofs [vb_X12_hold_0, vb_X12_hold_16, vb_X12_hold_18, vb_X12_hold_28, vb_X12_hold_61, vb_X12_hold_64, vb_X12_hold_98, vb_X12_hold_101, vb_X12_hold_136, vb_X12_hold_154, vb_X12_hold_163, vb_X12_hold_167, vb_X12_hold_168, vb_X12_hold_170, vb_X12_hold_176, vb_X12_hold_188, vb_X12_hold_200, vb_X12_hold_201, xI_0, xI_1, xI_3, xI_6, xI_7, xI_14, xI_36, xI_37, xI_38, xI_39, xI_43, xI_44, xI_46, xI_48, xI_49, xI_51, xI_60, xI_61, xI_62, xw_X12_hold_0, xw_X12_hold_16, xw_X12_hold_18, xw_X12_hold_28, xw_X12_hold_61, xw_X12_hold_64, xw_X12_hold_98, xw_X12_hold_101, xw_X12_hold_136, xw_X12_hold_154, xw_X12_hold_163, xw_X12_hold_167, xw_X12_hold_168, xw_X12_hold_170, xw_X12_hold_176, xw_X12_hold_188, xw_X12_hold_200, xw_X12_hold_201, zw_lit, xB_c, xB_s, xB_n, i1_c, j2_c, k1_c, jJ_e, xlg, xls, xla, xpd, ppush, zw_m1, zw_m2, zw_m3, gf_12_0, gf_12_35, gf_12_36, gf_12_39, gf_12_40, tg_12_0, tg_12_35, tg_12_36, tg_12_39, tg_12_40, gv_590_0, gv_590_35, gv_590_36, gv_590_39, gv_590_40, xD1, xD2, xD3, xD4, xD5, xD6, xb1_0, hA, c, c'] at h
      exact ⟨H, SCm_refl, h⟩
set_option maxRecDepth 100000 in
theorem sp_m_hold (u w : Int) (H : PH) (ok : OKR (H 591)) : SPEC 244 [(2, 590), (0, u), (0, w)] H (fun r H' => r = some (0, hdQ (H 591) u w) ∧ MQs H H') := by
  intro E n' res h
  have a0 := ok.1.1
  have a2 := ok.1.2.2.1
  have os := ok.2.2.1
  unfold OKS at os
  have z0 : zw (H 591 0 - 1) = H 591 0 - 1 := zw_lit (by omega) (by omega)
  have z2 : zw (H 591 2 - 1) = H 591 2 - 1 := zw_lit (by omega) (by omega)
  have zi := hlZ_in ok.1 u 0
  have zj := hlZ_in ok.1 u 1
  by_cases qu : 0 ≤ u ∧ u ≤ 4
  · have u0 := qu.1
    have u1 := qu.2
    have u2 : ¬ u < 0 := by omega
    have u3 : ¬ 4 < u := by omega
    by_cases qw : 0 ≤ w ∧ w ≤ 5
    · have w0 := qw.1
      have w1 := qw.2
      have w2 : ¬ w < 0 := by omega
      have w3 : ¬ 5 < w := by omega
      have hq : (0 ≤ u ∧ u ≤ 4) ∧ (0 ≤ w ∧ w ≤ 5) := by omega
      have h := call_runP 5 vm_X12_hold h
      have h := xw_top (hd := [28, 64, 101]) 20 xD6_ok xc_X12_hold xa_X12_hold (t := 0) rfl h
      simp (maxDischargeDepth := 12) -implicitDefEqProofs [vb_X12_hold_0, vb_X12_hold_16, vb_X12_hold_18, vb_X12_hold_28, vb_X12_hold_61, vb_X12_hold_64, vb_X12_hold_98, vb_X12_hold_101, vb_X12_hold_136, vb_X12_hold_154, vb_X12_hold_163, vb_X12_hold_167, vb_X12_hold_168, vb_X12_hold_170, vb_X12_hold_176, vb_X12_hold_188, vb_X12_hold_200, vb_X12_hold_201, xI_0, xI_1, xI_3, xI_6, xI_7, xI_14, xI_36, xI_37, xI_38, xI_39, xI_43, xI_44, xI_46, xI_48, xI_49, xI_51, xI_60, xI_61, xI_62, xw_X12_hold_0, xw_X12_hold_16, xw_X12_hold_18, xw_X12_hold_28, xw_X12_hold_61, xw_X12_hold_64, xw_X12_hold_98, xw_X12_hold_101, xw_X12_hold_136, xw_X12_hold_154, xw_X12_hold_163, xw_X12_hold_167, xw_X12_hold_168, xw_X12_hold_170, xw_X12_hold_176, xw_X12_hold_188, xw_X12_hold_200, xw_X12_hold_201, zw_lit, xB_c, xB_s, xB_n, i1_c, j2_c, k1_c, jJ_e, xlg, xls, xla, xpd, ppush, zw_m1, zw_m2, zw_m3, gf_12_0, gf_12_35, gf_12_36, gf_12_39, gf_12_40, tg_12_0, tg_12_35, tg_12_36, tg_12_39, tg_12_40, gv_590_0, gv_590_35, gv_590_36, gv_590_39, gv_590_40, xD1, xD2, xD3, xD4, xD5, xD6, xb1_0, u0, u1, u2, u3, w0, w1, w2, w3] at h
      obtain ⟨r, H1, ⟨rfl, g1, g2, sc⟩, g⟩ := xc_use h (sp_X12_layHold u H ok.1 ok.2.2.2)
      have eA : H1 591 = H 591 := sc.1 591 (by decide) (by decide)
      have mq := MQs_SC sc (by decide) (by decide)
      have e39 := g1.1
      have e40 := g2.1
      simp (maxDischargeDepth := 12) -implicitDefEqProofs [vb_X12_hold_0, vb_X12_hold_16, vb_X12_hold_18, vb_X12_hold_28, vb_X12_hold_61, vb_X12_hold_64, vb_X12_hold_98, vb_X12_hold_101, vb_X12_hold_136, vb_X12_hold_154, vb_X12_hold_163, vb_X12_hold_167, vb_X12_hold_168, vb_X12_hold_170, vb_X12_hold_176, vb_X12_hold_188, vb_X12_hold_200, vb_X12_hold_201, xI_0, xI_1, xI_3, xI_6, xI_7, xI_14, xI_36, xI_37, xI_38, xI_39, xI_43, xI_44, xI_46, xI_48, xI_49, xI_51, xI_60, xI_61, xI_62, xw_X12_hold_0, xw_X12_hold_16, xw_X12_hold_18, xw_X12_hold_28, xw_X12_hold_61, xw_X12_hold_64, xw_X12_hold_98, xw_X12_hold_101, xw_X12_hold_136, xw_X12_hold_154, xw_X12_hold_163, xw_X12_hold_167, xw_X12_hold_168, xw_X12_hold_170, xw_X12_hold_176, xw_X12_hold_188, xw_X12_hold_200, xw_X12_hold_201, zw_lit, xB_c, xB_s, xB_n, i1_c, j2_c, k1_c, jJ_e, xlg, xls, xla, xpd, ppush, zw_m1, zw_m2, zw_m3, gf_12_0, gf_12_35, gf_12_36, gf_12_39, gf_12_40, tg_12_0, tg_12_35, tg_12_36, tg_12_39, tg_12_40, gv_590_0, gv_590_35, gv_590_36, gv_590_39, gv_590_40, xD1, xD2, xD3, xD4, xD5, xD6, xb1_0] at g
      obtain ⟨m, hm, g⟩ := g
      have c1 : (hlZ (H 591) u 0).1 ≤ 0 ∨ ¬ (hlZ (H 591) u 0).1 ≤ 0 := by omega
      have c2 : (hlZ (H 591) u 1).1 ≤ 0 ∨ ¬ (hlZ (H 591) u 1).1 ≤ 0 := by omega
      have c3 : H 591 2 ≤ 0 ∨ ¬ H 591 2 ≤ 0 := by omega
      by_cases c : w = 0
      · subst c
        obtain ⟨m2, hm2, g⟩ := lp_ho1 (H 591) ok.1 ok.2.2.2 u H1 eA g1 m 0 0 (by omega) zi.1 (by omega) (by omega) g
        rw [Int.sub_zero, hlZ_bl] at g
        have g : ∃ m3, RUN E res m3 kd_X12_hold (zget kd_X12_hold 101) 101 [590, u, 0, blQ (H 591) u 0, 0] [] H1 := by
          rcases c2 with c2 | c2
          · have c2n : ¬ 0 < (hlZ (H 591) u 1).1 := by omega
            have g := xw_top (hd := [64, 101]) 20 xD6_ok xc_X12_hold xa_X12_hold (t := 64) rfl g
            simp (maxDischargeDepth := 12) -implicitDefEqProofs [vb_X12_hold_0, vb_X12_hold_16, vb_X12_hold_18, vb_X12_hold_28, vb_X12_hold_61, vb_X12_hold_64, vb_X12_hold_98, vb_X12_hold_101, vb_X12_hold_136, vb_X12_hold_154, vb_X12_hold_163, vb_X12_hold_167, vb_X12_hold_168, vb_X12_hold_170, vb_X12_hold_176, vb_X12_hold_188, vb_X12_hold_200, vb_X12_hold_201, xI_0, xI_1, xI_3, xI_6, xI_7, xI_14, xI_36, xI_37, xI_38, xI_39, xI_43, xI_44, xI_46, xI_48, xI_49, xI_51, xI_60, xI_61, xI_62, xw_X12_hold_0, xw_X12_hold_16, xw_X12_hold_18, xw_X12_hold_28, xw_X12_hold_61, xw_X12_hold_64, xw_X12_hold_98, xw_X12_hold_101, xw_X12_hold_136, xw_X12_hold_154, xw_X12_hold_163, xw_X12_hold_167, xw_X12_hold_168, xw_X12_hold_170, xw_X12_hold_176, xw_X12_hold_188, xw_X12_hold_200, xw_X12_hold_201, zw_lit, xB_c, xB_s, xB_n, i1_c, j2_c, k1_c, jJ_e, xlg, xls, xla, xpd, ppush, zw_m1, zw_m2, zw_m3, gf_12_0, gf_12_35, gf_12_36, gf_12_39, gf_12_40, tg_12_0, tg_12_35, tg_12_36, tg_12_39, tg_12_40, gv_590_0, gv_590_35, gv_590_36, gv_590_39, gv_590_40, xD1, xD2, xD3, xD4, xD5, xD6, xb1_0, e40, c2, c2n] at g
            obtain ⟨m3, hm3, g⟩ := g
            exact ⟨m3, g⟩
          · have c2' : 0 < (hlZ (H 591) u 1).1 := by omega
            have g := xw_top (hd := [64, 101]) 20 xD6_ok xc_X12_hold xa_X12_hold (t := 64) rfl g
            simp (maxDischargeDepth := 12) -implicitDefEqProofs [vb_X12_hold_0, vb_X12_hold_16, vb_X12_hold_18, vb_X12_hold_28, vb_X12_hold_61, vb_X12_hold_64, vb_X12_hold_98, vb_X12_hold_101, vb_X12_hold_136, vb_X12_hold_154, vb_X12_hold_163, vb_X12_hold_167, vb_X12_hold_168, vb_X12_hold_170, vb_X12_hold_176, vb_X12_hold_188, vb_X12_hold_200, vb_X12_hold_201, xI_0, xI_1, xI_3, xI_6, xI_7, xI_14, xI_36, xI_37, xI_38, xI_39, xI_43, xI_44, xI_46, xI_48, xI_49, xI_51, xI_60, xI_61, xI_62, xw_X12_hold_0, xw_X12_hold_16, xw_X12_hold_18, xw_X12_hold_28, xw_X12_hold_61, xw_X12_hold_64, xw_X12_hold_98, xw_X12_hold_101, xw_X12_hold_136, xw_X12_hold_154, xw_X12_hold_163, xw_X12_hold_167, xw_X12_hold_168, xw_X12_hold_170, xw_X12_hold_176, xw_X12_hold_188, xw_X12_hold_200, xw_X12_hold_201, zw_lit, xB_c, xB_s, xB_n, i1_c, j2_c, k1_c, jJ_e, xlg, xls, xla, xpd, ppush, zw_m1, zw_m2, zw_m3, gf_12_0, gf_12_35, gf_12_36, gf_12_39, gf_12_40, tg_12_0, tg_12_35, tg_12_36, tg_12_39, tg_12_40, gv_590_0, gv_590_35, gv_590_36, gv_590_39, gv_590_40, xD1, xD2, xD3, xD4, xD5, xD6, xb1_0, e40, c2, c2'] at g
            obtain ⟨m3, hm3, g⟩ := g
            exact ⟨m3, g⟩
        obtain ⟨m3, g⟩ := g
        rcases c3 with c3 | c3
        · have c3n : ¬ 0 < H 591 2 := by omega
          have g := xw_top (hd := [101]) 20 xD6_ok xc_X12_hold xa_X12_hold (t := 101) rfl g
          simp (maxDischargeDepth := 12) -implicitDefEqProofs [vb_X12_hold_0, vb_X12_hold_16, vb_X12_hold_18, vb_X12_hold_28, vb_X12_hold_61, vb_X12_hold_64, vb_X12_hold_98, vb_X12_hold_101, vb_X12_hold_136, vb_X12_hold_154, vb_X12_hold_163, vb_X12_hold_167, vb_X12_hold_168, vb_X12_hold_170, vb_X12_hold_176, vb_X12_hold_188, vb_X12_hold_200, vb_X12_hold_201, xI_0, xI_1, xI_3, xI_6, xI_7, xI_14, xI_36, xI_37, xI_38, xI_39, xI_43, xI_44, xI_46, xI_48, xI_49, xI_51, xI_60, xI_61, xI_62, xw_X12_hold_0, xw_X12_hold_16, xw_X12_hold_18, xw_X12_hold_28, xw_X12_hold_61, xw_X12_hold_64, xw_X12_hold_98, xw_X12_hold_101, xw_X12_hold_136, xw_X12_hold_154, xw_X12_hold_163, xw_X12_hold_167, xw_X12_hold_168, xw_X12_hold_170, xw_X12_hold_176, xw_X12_hold_188, xw_X12_hold_200, xw_X12_hold_201, zw_lit, xB_c, xB_s, xB_n, i1_c, j2_c, k1_c, jJ_e, xlg, xls, xla, xpd, ppush, zw_m1, zw_m2, zw_m3, gf_12_0, gf_12_35, gf_12_36, gf_12_39, gf_12_40, tg_12_0, tg_12_35, tg_12_36, tg_12_39, tg_12_40, gv_590_0, gv_590_35, gv_590_36, gv_590_39, gv_590_40, xD1, xD2, xD3, xD4, xD5, xD6, xb1_0, eA, c3, c3n] at g
          exact ⟨_, H1, g, by unfold hdQ; rw [if_pos hq]; rfl, mq⟩
        · have c3' : 0 < H 591 2 := by omega
          have g := xw_top (hd := [101]) 20 xD6_ok xc_X12_hold xa_X12_hold (t := 101) rfl g
          simp (maxDischargeDepth := 12) -implicitDefEqProofs [vb_X12_hold_0, vb_X12_hold_16, vb_X12_hold_18, vb_X12_hold_28, vb_X12_hold_61, vb_X12_hold_64, vb_X12_hold_98, vb_X12_hold_101, vb_X12_hold_136, vb_X12_hold_154, vb_X12_hold_163, vb_X12_hold_167, vb_X12_hold_168, vb_X12_hold_170, vb_X12_hold_176, vb_X12_hold_188, vb_X12_hold_200, vb_X12_hold_201, xI_0, xI_1, xI_3, xI_6, xI_7, xI_14, xI_36, xI_37, xI_38, xI_39, xI_43, xI_44, xI_46, xI_48, xI_49, xI_51, xI_60, xI_61, xI_62, xw_X12_hold_0, xw_X12_hold_16, xw_X12_hold_18, xw_X12_hold_28, xw_X12_hold_61, xw_X12_hold_64, xw_X12_hold_98, xw_X12_hold_101, xw_X12_hold_136, xw_X12_hold_154, xw_X12_hold_163, xw_X12_hold_167, xw_X12_hold_168, xw_X12_hold_170, xw_X12_hold_176, xw_X12_hold_188, xw_X12_hold_200, xw_X12_hold_201, zw_lit, xB_c, xB_s, xB_n, i1_c, j2_c, k1_c, jJ_e, xlg, xls, xla, xpd, ppush, zw_m1, zw_m2, zw_m3, gf_12_0, gf_12_35, gf_12_36, gf_12_39, gf_12_40, tg_12_0, tg_12_35, tg_12_36, tg_12_39, tg_12_40, gv_590_0, gv_590_35, gv_590_36, gv_590_39, gv_590_40, xD1, xD2, xD3, xD4, xD5, xD6, xb1_0, eA, c3, c3'] at g
          exact ⟨_, H1, g, by unfold hdQ; rw [if_pos hq]; rfl, mq⟩
      have g : ∃ m2, RUN E res m2 kd_X12_hold (zget kd_X12_hold 64) 64 [590, u, w, 0, 0] [] H1 := by
        rcases c1 with c1 | c1
        · have c1n : ¬ 0 < (hlZ (H 591) u 0).1 := by omega
          have g := xw_top (hd := [28, 64]) 20 xD6_ok xc_X12_hold xa_X12_hold (t := 28) rfl g
          simp (maxDischargeDepth := 12) -implicitDefEqProofs [vb_X12_hold_0, vb_X12_hold_16, vb_X12_hold_18, vb_X12_hold_28, vb_X12_hold_61, vb_X12_hold_64, vb_X12_hold_98, vb_X12_hold_101, vb_X12_hold_136, vb_X12_hold_154, vb_X12_hold_163, vb_X12_hold_167, vb_X12_hold_168, vb_X12_hold_170, vb_X12_hold_176, vb_X12_hold_188, vb_X12_hold_200, vb_X12_hold_201, xI_0, xI_1, xI_3, xI_6, xI_7, xI_14, xI_36, xI_37, xI_38, xI_39, xI_43, xI_44, xI_46, xI_48, xI_49, xI_51, xI_60, xI_61, xI_62, xw_X12_hold_0, xw_X12_hold_16, xw_X12_hold_18, xw_X12_hold_28, xw_X12_hold_61, xw_X12_hold_64, xw_X12_hold_98, xw_X12_hold_101, xw_X12_hold_136, xw_X12_hold_154, xw_X12_hold_163, xw_X12_hold_167, xw_X12_hold_168, xw_X12_hold_170, xw_X12_hold_176, xw_X12_hold_188, xw_X12_hold_200, xw_X12_hold_201, zw_lit, xB_c, xB_s, xB_n, i1_c, j2_c, k1_c, jJ_e, xlg, xls, xla, xpd, ppush, zw_m1, zw_m2, zw_m3, gf_12_0, gf_12_35, gf_12_36, gf_12_39, gf_12_40, tg_12_0, tg_12_35, tg_12_36, tg_12_39, tg_12_40, gv_590_0, gv_590_35, gv_590_36, gv_590_39, gv_590_40, xD1, xD2, xD3, xD4, xD5, xD6, xb1_0, e39, c1, c1n] at g
          obtain ⟨m3, hm3, g⟩ := g
          exact ⟨m3, g⟩
        · have c1' : 0 < (hlZ (H 591) u 0).1 := by omega
          have g := xw_top (hd := [28, 64]) 20 xD6_ok xc_X12_hold xa_X12_hold (t := 28) rfl g
          simp (maxDischargeDepth := 12) -implicitDefEqProofs [vb_X12_hold_0, vb_X12_hold_16, vb_X12_hold_18, vb_X12_hold_28, vb_X12_hold_61, vb_X12_hold_64, vb_X12_hold_98, vb_X12_hold_101, vb_X12_hold_136, vb_X12_hold_154, vb_X12_hold_163, vb_X12_hold_167, vb_X12_hold_168, vb_X12_hold_170, vb_X12_hold_176, vb_X12_hold_188, vb_X12_hold_200, vb_X12_hold_201, xI_0, xI_1, xI_3, xI_6, xI_7, xI_14, xI_36, xI_37, xI_38, xI_39, xI_43, xI_44, xI_46, xI_48, xI_49, xI_51, xI_60, xI_61, xI_62, xw_X12_hold_0, xw_X12_hold_16, xw_X12_hold_18, xw_X12_hold_28, xw_X12_hold_61, xw_X12_hold_64, xw_X12_hold_98, xw_X12_hold_101, xw_X12_hold_136, xw_X12_hold_154, xw_X12_hold_163, xw_X12_hold_167, xw_X12_hold_168, xw_X12_hold_170, xw_X12_hold_176, xw_X12_hold_188, xw_X12_hold_200, xw_X12_hold_201, zw_lit, xB_c, xB_s, xB_n, i1_c, j2_c, k1_c, jJ_e, xlg, xls, xla, xpd, ppush, zw_m1, zw_m2, zw_m3, gf_12_0, gf_12_35, gf_12_36, gf_12_39, gf_12_40, tg_12_0, tg_12_35, tg_12_36, tg_12_39, tg_12_40, gv_590_0, gv_590_35, gv_590_36, gv_590_39, gv_590_40, xD1, xD2, xD3, xD4, xD5, xD6, xb1_0, e39, c1, c1', c] at g
          obtain ⟨m3, hm3, g⟩ := g
          exact ⟨m3, g⟩
      obtain ⟨m2, g⟩ := g
      by_cases d : w = 1
      · subst d
        obtain ⟨m3, hm3, g⟩ := lp_ho2 (H 591) ok.1 ok.2.2.2 u H1 eA g2 m2 0 0 (by omega) zj.1 (by omega) (by omega) g
        rw [Int.sub_zero, hlZ_bl] at g
        rcases c3 with c3 | c3
        · have c3n : ¬ 0 < H 591 2 := by omega
          have g := xw_top (hd := [101]) 20 xD6_ok xc_X12_hold xa_X12_hold (t := 101) rfl g
          simp (maxDischargeDepth := 12) -implicitDefEqProofs [vb_X12_hold_0, vb_X12_hold_16, vb_X12_hold_18, vb_X12_hold_28, vb_X12_hold_61, vb_X12_hold_64, vb_X12_hold_98, vb_X12_hold_101, vb_X12_hold_136, vb_X12_hold_154, vb_X12_hold_163, vb_X12_hold_167, vb_X12_hold_168, vb_X12_hold_170, vb_X12_hold_176, vb_X12_hold_188, vb_X12_hold_200, vb_X12_hold_201, xI_0, xI_1, xI_3, xI_6, xI_7, xI_14, xI_36, xI_37, xI_38, xI_39, xI_43, xI_44, xI_46, xI_48, xI_49, xI_51, xI_60, xI_61, xI_62, xw_X12_hold_0, xw_X12_hold_16, xw_X12_hold_18, xw_X12_hold_28, xw_X12_hold_61, xw_X12_hold_64, xw_X12_hold_98, xw_X12_hold_101, xw_X12_hold_136, xw_X12_hold_154, xw_X12_hold_163, xw_X12_hold_167, xw_X12_hold_168, xw_X12_hold_170, xw_X12_hold_176, xw_X12_hold_188, xw_X12_hold_200, xw_X12_hold_201, zw_lit, xB_c, xB_s, xB_n, i1_c, j2_c, k1_c, jJ_e, xlg, xls, xla, xpd, ppush, zw_m1, zw_m2, zw_m3, gf_12_0, gf_12_35, gf_12_36, gf_12_39, gf_12_40, tg_12_0, tg_12_35, tg_12_36, tg_12_39, tg_12_40, gv_590_0, gv_590_35, gv_590_36, gv_590_39, gv_590_40, xD1, xD2, xD3, xD4, xD5, xD6, xb1_0, eA, c3, c3n] at g
          exact ⟨_, H1, g, by unfold hdQ; rw [if_pos hq]; rfl, mq⟩
        · have c3' : 0 < H 591 2 := by omega
          have g := xw_top (hd := [101]) 20 xD6_ok xc_X12_hold xa_X12_hold (t := 101) rfl g
          simp (maxDischargeDepth := 12) -implicitDefEqProofs [vb_X12_hold_0, vb_X12_hold_16, vb_X12_hold_18, vb_X12_hold_28, vb_X12_hold_61, vb_X12_hold_64, vb_X12_hold_98, vb_X12_hold_101, vb_X12_hold_136, vb_X12_hold_154, vb_X12_hold_163, vb_X12_hold_167, vb_X12_hold_168, vb_X12_hold_170, vb_X12_hold_176, vb_X12_hold_188, vb_X12_hold_200, vb_X12_hold_201, xI_0, xI_1, xI_3, xI_6, xI_7, xI_14, xI_36, xI_37, xI_38, xI_39, xI_43, xI_44, xI_46, xI_48, xI_49, xI_51, xI_60, xI_61, xI_62, xw_X12_hold_0, xw_X12_hold_16, xw_X12_hold_18, xw_X12_hold_28, xw_X12_hold_61, xw_X12_hold_64, xw_X12_hold_98, xw_X12_hold_101, xw_X12_hold_136, xw_X12_hold_154, xw_X12_hold_163, xw_X12_hold_167, xw_X12_hold_168, xw_X12_hold_170, xw_X12_hold_176, xw_X12_hold_188, xw_X12_hold_200, xw_X12_hold_201, zw_lit, xB_c, xB_s, xB_n, i1_c, j2_c, k1_c, jJ_e, xlg, xls, xla, xpd, ppush, zw_m1, zw_m2, zw_m3, gf_12_0, gf_12_35, gf_12_36, gf_12_39, gf_12_40, tg_12_0, tg_12_35, tg_12_36, tg_12_39, tg_12_40, gv_590_0, gv_590_35, gv_590_36, gv_590_39, gv_590_40, xD1, xD2, xD3, xD4, xD5, xD6, xb1_0, eA, c3, c3'] at g
          exact ⟨_, H1, g, by unfold hdQ; rw [if_pos hq]; rfl, mq⟩
      have g : ∃ m2, RUN E res m2 kd_X12_hold (zget kd_X12_hold 101) 101 [590, u, w, 0, 0] [] H1 := by
        rcases c2 with c2 | c2
        · have c2n : ¬ 0 < (hlZ (H 591) u 1).1 := by omega
          have g := xw_top (hd := [64, 101]) 20 xD6_ok xc_X12_hold xa_X12_hold (t := 64) rfl g
          simp (maxDischargeDepth := 12) -implicitDefEqProofs [vb_X12_hold_0, vb_X12_hold_16, vb_X12_hold_18, vb_X12_hold_28, vb_X12_hold_61, vb_X12_hold_64, vb_X12_hold_98, vb_X12_hold_101, vb_X12_hold_136, vb_X12_hold_154, vb_X12_hold_163, vb_X12_hold_167, vb_X12_hold_168, vb_X12_hold_170, vb_X12_hold_176, vb_X12_hold_188, vb_X12_hold_200, vb_X12_hold_201, xI_0, xI_1, xI_3, xI_6, xI_7, xI_14, xI_36, xI_37, xI_38, xI_39, xI_43, xI_44, xI_46, xI_48, xI_49, xI_51, xI_60, xI_61, xI_62, xw_X12_hold_0, xw_X12_hold_16, xw_X12_hold_18, xw_X12_hold_28, xw_X12_hold_61, xw_X12_hold_64, xw_X12_hold_98, xw_X12_hold_101, xw_X12_hold_136, xw_X12_hold_154, xw_X12_hold_163, xw_X12_hold_167, xw_X12_hold_168, xw_X12_hold_170, xw_X12_hold_176, xw_X12_hold_188, xw_X12_hold_200, xw_X12_hold_201, zw_lit, xB_c, xB_s, xB_n, i1_c, j2_c, k1_c, jJ_e, xlg, xls, xla, xpd, ppush, zw_m1, zw_m2, zw_m3, gf_12_0, gf_12_35, gf_12_36, gf_12_39, gf_12_40, tg_12_0, tg_12_35, tg_12_36, tg_12_39, tg_12_40, gv_590_0, gv_590_35, gv_590_36, gv_590_39, gv_590_40, xD1, xD2, xD3, xD4, xD5, xD6, xb1_0, e40, c2, c2n] at g
          obtain ⟨m3, hm3, g⟩ := g
          exact ⟨m3, g⟩
        · have c2' : 0 < (hlZ (H 591) u 1).1 := by omega
          have g := xw_top (hd := [64, 101]) 20 xD6_ok xc_X12_hold xa_X12_hold (t := 64) rfl g
          simp (maxDischargeDepth := 12) -implicitDefEqProofs [vb_X12_hold_0, vb_X12_hold_16, vb_X12_hold_18, vb_X12_hold_28, vb_X12_hold_61, vb_X12_hold_64, vb_X12_hold_98, vb_X12_hold_101, vb_X12_hold_136, vb_X12_hold_154, vb_X12_hold_163, vb_X12_hold_167, vb_X12_hold_168, vb_X12_hold_170, vb_X12_hold_176, vb_X12_hold_188, vb_X12_hold_200, vb_X12_hold_201, xI_0, xI_1, xI_3, xI_6, xI_7, xI_14, xI_36, xI_37, xI_38, xI_39, xI_43, xI_44, xI_46, xI_48, xI_49, xI_51, xI_60, xI_61, xI_62, xw_X12_hold_0, xw_X12_hold_16, xw_X12_hold_18, xw_X12_hold_28, xw_X12_hold_61, xw_X12_hold_64, xw_X12_hold_98, xw_X12_hold_101, xw_X12_hold_136, xw_X12_hold_154, xw_X12_hold_163, xw_X12_hold_167, xw_X12_hold_168, xw_X12_hold_170, xw_X12_hold_176, xw_X12_hold_188, xw_X12_hold_200, xw_X12_hold_201, zw_lit, xB_c, xB_s, xB_n, i1_c, j2_c, k1_c, jJ_e, xlg, xls, xla, xpd, ppush, zw_m1, zw_m2, zw_m3, gf_12_0, gf_12_35, gf_12_36, gf_12_39, gf_12_40, tg_12_0, tg_12_35, tg_12_36, tg_12_39, tg_12_40, gv_590_0, gv_590_35, gv_590_36, gv_590_39, gv_590_40, xD1, xD2, xD3, xD4, xD5, xD6, xb1_0, e40, c2, c2', d] at g
          obtain ⟨m3, hm3, g⟩ := g
          exact ⟨m3, g⟩
      obtain ⟨m3, g⟩ := g
      by_cases p : w = 2
      · subst p
        have v : hdQ (H 591) u 2 = lnQ (H 591) u 0 := by unfold hdQ; rw [if_pos hq]; rfl
        rw [v, ← hlZ_ln]
        rcases c3 with c3 | c3
        · have c3n : ¬ 0 < H 591 2 := by omega
          have g := xw_top (hd := [101]) 20 xD6_ok xc_X12_hold xa_X12_hold (t := 101) rfl g
          simp (maxDischargeDepth := 12) -implicitDefEqProofs [vb_X12_hold_0, vb_X12_hold_16, vb_X12_hold_18, vb_X12_hold_28, vb_X12_hold_61, vb_X12_hold_64, vb_X12_hold_98, vb_X12_hold_101, vb_X12_hold_136, vb_X12_hold_154, vb_X12_hold_163, vb_X12_hold_167, vb_X12_hold_168, vb_X12_hold_170, vb_X12_hold_176, vb_X12_hold_188, vb_X12_hold_200, vb_X12_hold_201, xI_0, xI_1, xI_3, xI_6, xI_7, xI_14, xI_36, xI_37, xI_38, xI_39, xI_43, xI_44, xI_46, xI_48, xI_49, xI_51, xI_60, xI_61, xI_62, xw_X12_hold_0, xw_X12_hold_16, xw_X12_hold_18, xw_X12_hold_28, xw_X12_hold_61, xw_X12_hold_64, xw_X12_hold_98, xw_X12_hold_101, xw_X12_hold_136, xw_X12_hold_154, xw_X12_hold_163, xw_X12_hold_167, xw_X12_hold_168, xw_X12_hold_170, xw_X12_hold_176, xw_X12_hold_188, xw_X12_hold_200, xw_X12_hold_201, zw_lit, xB_c, xB_s, xB_n, i1_c, j2_c, k1_c, jJ_e, xlg, xls, xla, xpd, ppush, zw_m1, zw_m2, zw_m3, gf_12_0, gf_12_35, gf_12_36, gf_12_39, gf_12_40, tg_12_0, tg_12_35, tg_12_36, tg_12_39, tg_12_40, gv_590_0, gv_590_35, gv_590_36, gv_590_39, gv_590_40, xD1, xD2, xD3, xD4, xD5, xD6, xb1_0, eA, c3, e39, e40, c3n] at g
          exact ⟨_, H1, g, rfl, mq⟩
        · have c3' : 0 < H 591 2 := by omega
          have g := xw_top (hd := [101]) 20 xD6_ok xc_X12_hold xa_X12_hold (t := 101) rfl g
          simp (maxDischargeDepth := 12) -implicitDefEqProofs [vb_X12_hold_0, vb_X12_hold_16, vb_X12_hold_18, vb_X12_hold_28, vb_X12_hold_61, vb_X12_hold_64, vb_X12_hold_98, vb_X12_hold_101, vb_X12_hold_136, vb_X12_hold_154, vb_X12_hold_163, vb_X12_hold_167, vb_X12_hold_168, vb_X12_hold_170, vb_X12_hold_176, vb_X12_hold_188, vb_X12_hold_200, vb_X12_hold_201, xI_0, xI_1, xI_3, xI_6, xI_7, xI_14, xI_36, xI_37, xI_38, xI_39, xI_43, xI_44, xI_46, xI_48, xI_49, xI_51, xI_60, xI_61, xI_62, xw_X12_hold_0, xw_X12_hold_16, xw_X12_hold_18, xw_X12_hold_28, xw_X12_hold_61, xw_X12_hold_64, xw_X12_hold_98, xw_X12_hold_101, xw_X12_hold_136, xw_X12_hold_154, xw_X12_hold_163, xw_X12_hold_167, xw_X12_hold_168, xw_X12_hold_170, xw_X12_hold_176, xw_X12_hold_188, xw_X12_hold_200, xw_X12_hold_201, zw_lit, xB_c, xB_s, xB_n, i1_c, j2_c, k1_c, jJ_e, xlg, xls, xla, xpd, ppush, zw_m1, zw_m2, zw_m3, gf_12_0, gf_12_35, gf_12_36, gf_12_39, gf_12_40, tg_12_0, tg_12_35, tg_12_36, tg_12_39, tg_12_40, gv_590_0, gv_590_35, gv_590_36, gv_590_39, gv_590_40, xD1, xD2, xD3, xD4, xD5, xD6, xb1_0, eA, c3, c3', e39, e40] at g
          exact ⟨_, H1, g, rfl, mq⟩
      by_cases p : w = 3
      · subst p
        have v : hdQ (H 591) u 3 = lnQ (H 591) u 1 := by unfold hdQ; rw [if_pos hq]; rfl
        rw [v, ← hlZ_ln]
        rcases c3 with c3 | c3
        · have c3n : ¬ 0 < H 591 2 := by omega
          have g := xw_top (hd := [101]) 20 xD6_ok xc_X12_hold xa_X12_hold (t := 101) rfl g
          simp (maxDischargeDepth := 12) -implicitDefEqProofs [vb_X12_hold_0, vb_X12_hold_16, vb_X12_hold_18, vb_X12_hold_28, vb_X12_hold_61, vb_X12_hold_64, vb_X12_hold_98, vb_X12_hold_101, vb_X12_hold_136, vb_X12_hold_154, vb_X12_hold_163, vb_X12_hold_167, vb_X12_hold_168, vb_X12_hold_170, vb_X12_hold_176, vb_X12_hold_188, vb_X12_hold_200, vb_X12_hold_201, xI_0, xI_1, xI_3, xI_6, xI_7, xI_14, xI_36, xI_37, xI_38, xI_39, xI_43, xI_44, xI_46, xI_48, xI_49, xI_51, xI_60, xI_61, xI_62, xw_X12_hold_0, xw_X12_hold_16, xw_X12_hold_18, xw_X12_hold_28, xw_X12_hold_61, xw_X12_hold_64, xw_X12_hold_98, xw_X12_hold_101, xw_X12_hold_136, xw_X12_hold_154, xw_X12_hold_163, xw_X12_hold_167, xw_X12_hold_168, xw_X12_hold_170, xw_X12_hold_176, xw_X12_hold_188, xw_X12_hold_200, xw_X12_hold_201, zw_lit, xB_c, xB_s, xB_n, i1_c, j2_c, k1_c, jJ_e, xlg, xls, xla, xpd, ppush, zw_m1, zw_m2, zw_m3, gf_12_0, gf_12_35, gf_12_36, gf_12_39, gf_12_40, tg_12_0, tg_12_35, tg_12_36, tg_12_39, tg_12_40, gv_590_0, gv_590_35, gv_590_36, gv_590_39, gv_590_40, xD1, xD2, xD3, xD4, xD5, xD6, xb1_0, eA, c3, e39, e40, c3n] at g
          exact ⟨_, H1, g, rfl, mq⟩
        · have c3' : 0 < H 591 2 := by omega
          have g := xw_top (hd := [101]) 20 xD6_ok xc_X12_hold xa_X12_hold (t := 101) rfl g
          simp (maxDischargeDepth := 12) -implicitDefEqProofs [vb_X12_hold_0, vb_X12_hold_16, vb_X12_hold_18, vb_X12_hold_28, vb_X12_hold_61, vb_X12_hold_64, vb_X12_hold_98, vb_X12_hold_101, vb_X12_hold_136, vb_X12_hold_154, vb_X12_hold_163, vb_X12_hold_167, vb_X12_hold_168, vb_X12_hold_170, vb_X12_hold_176, vb_X12_hold_188, vb_X12_hold_200, vb_X12_hold_201, xI_0, xI_1, xI_3, xI_6, xI_7, xI_14, xI_36, xI_37, xI_38, xI_39, xI_43, xI_44, xI_46, xI_48, xI_49, xI_51, xI_60, xI_61, xI_62, xw_X12_hold_0, xw_X12_hold_16, xw_X12_hold_18, xw_X12_hold_28, xw_X12_hold_61, xw_X12_hold_64, xw_X12_hold_98, xw_X12_hold_101, xw_X12_hold_136, xw_X12_hold_154, xw_X12_hold_163, xw_X12_hold_167, xw_X12_hold_168, xw_X12_hold_170, xw_X12_hold_176, xw_X12_hold_188, xw_X12_hold_200, xw_X12_hold_201, zw_lit, xB_c, xB_s, xB_n, i1_c, j2_c, k1_c, jJ_e, xlg, xls, xla, xpd, ppush, zw_m1, zw_m2, zw_m3, gf_12_0, gf_12_35, gf_12_36, gf_12_39, gf_12_40, tg_12_0, tg_12_35, tg_12_36, tg_12_39, tg_12_40, gv_590_0, gv_590_35, gv_590_36, gv_590_39, gv_590_40, xD1, xD2, xD3, xD4, xD5, xD6, xb1_0, eA, c3, c3', e39, e40] at g
          exact ⟨_, H1, g, rfl, mq⟩
      by_cases p : w = 4
      · subst p
        obtain ⟨H2, s2, g⟩ := lp_ho4 (H 591) ok.1 u m3 0 0 H1 (by omega) a2.1 (by omega) (by omega) eA g
        rw [Int.sub_zero] at g
        exact ⟨_, H2, g, by unfold hdQ; rw [if_pos hq]; rfl, MQs_trans mq (MQs_SC s2 (by decide) (by decide))⟩
      have p : w = 5 := by omega
      subst p
      obtain ⟨H2, s2, g⟩ := lp_ho5 (H 591) ok.1 u m3 0 0 H1 (by omega) a2.1 (by omega) (by omega) eA g
      rw [Int.sub_zero] at g
      exact ⟨_, H2, g, by unfold hdQ; rw [if_pos hq]; rfl, MQs_trans mq (MQs_SC s2 (by decide) (by decide))⟩
    · by_cases w0 : 0 ≤ w
      · have w1 : ¬ w ≤ 5 := by omega
        have w2 : ¬ w < 0 := by omega
        have w3 : 5 < w := by omega
        have h := call_runP 5 vm_X12_hold h
        have h := xw_top (hd := [28, 64, 101]) 20 xD6_ok xc_X12_hold xa_X12_hold (t := 0) rfl h
        simp (maxDischargeDepth := 12) -implicitDefEqProofs [vb_X12_hold_0, vb_X12_hold_16, vb_X12_hold_18, vb_X12_hold_28, vb_X12_hold_61, vb_X12_hold_64, vb_X12_hold_98, vb_X12_hold_101, vb_X12_hold_136, vb_X12_hold_154, vb_X12_hold_163, vb_X12_hold_167, vb_X12_hold_168, vb_X12_hold_170, vb_X12_hold_176, vb_X12_hold_188, vb_X12_hold_200, vb_X12_hold_201, xI_0, xI_1, xI_3, xI_6, xI_7, xI_14, xI_36, xI_37, xI_38, xI_39, xI_43, xI_44, xI_46, xI_48, xI_49, xI_51, xI_60, xI_61, xI_62, xw_X12_hold_0, xw_X12_hold_16, xw_X12_hold_18, xw_X12_hold_28, xw_X12_hold_61, xw_X12_hold_64, xw_X12_hold_98, xw_X12_hold_101, xw_X12_hold_136, xw_X12_hold_154, xw_X12_hold_163, xw_X12_hold_167, xw_X12_hold_168, xw_X12_hold_170, xw_X12_hold_176, xw_X12_hold_188, xw_X12_hold_200, xw_X12_hold_201, zw_lit, xB_c, xB_s, xB_n, i1_c, j2_c, k1_c, jJ_e, xlg, xls, xla, xpd, ppush, zw_m1, zw_m2, zw_m3, gf_12_0, gf_12_35, gf_12_36, gf_12_39, gf_12_40, tg_12_0, tg_12_35, tg_12_36, tg_12_39, tg_12_40, gv_590_0, gv_590_35, gv_590_36, gv_590_39, gv_590_40, xD1, xD2, xD3, xD4, xD5, xD6, xb1_0, u0, u1, u2, u3, w0, w1, w2, w3] at h
        exact ⟨_, _, h, by unfold hdQ; rw [if_neg (by omega)], MQs_refl⟩
      · have w2 : w < 0 := by omega
        have h := call_runP 5 vm_X12_hold h
        have h := xw_top (hd := [28, 64, 101]) 20 xD6_ok xc_X12_hold xa_X12_hold (t := 0) rfl h
        simp (maxDischargeDepth := 12) -implicitDefEqProofs [vb_X12_hold_0, vb_X12_hold_16, vb_X12_hold_18, vb_X12_hold_28, vb_X12_hold_61, vb_X12_hold_64, vb_X12_hold_98, vb_X12_hold_101, vb_X12_hold_136, vb_X12_hold_154, vb_X12_hold_163, vb_X12_hold_167, vb_X12_hold_168, vb_X12_hold_170, vb_X12_hold_176, vb_X12_hold_188, vb_X12_hold_200, vb_X12_hold_201, xI_0, xI_1, xI_3, xI_6, xI_7, xI_14, xI_36, xI_37, xI_38, xI_39, xI_43, xI_44, xI_46, xI_48, xI_49, xI_51, xI_60, xI_61, xI_62, xw_X12_hold_0, xw_X12_hold_16, xw_X12_hold_18, xw_X12_hold_28, xw_X12_hold_61, xw_X12_hold_64, xw_X12_hold_98, xw_X12_hold_101, xw_X12_hold_136, xw_X12_hold_154, xw_X12_hold_163, xw_X12_hold_167, xw_X12_hold_168, xw_X12_hold_170, xw_X12_hold_176, xw_X12_hold_188, xw_X12_hold_200, xw_X12_hold_201, zw_lit, xB_c, xB_s, xB_n, i1_c, j2_c, k1_c, jJ_e, xlg, xls, xla, xpd, ppush, zw_m1, zw_m2, zw_m3, gf_12_0, gf_12_35, gf_12_36, gf_12_39, gf_12_40, tg_12_0, tg_12_35, tg_12_36, tg_12_39, tg_12_40, gv_590_0, gv_590_35, gv_590_36, gv_590_39, gv_590_40, xD1, xD2, xD3, xD4, xD5, xD6, xb1_0, u0, u1, u2, u3, w0, w2] at h
        exact ⟨_, _, h, by unfold hdQ; rw [if_neg (by omega)], MQs_refl⟩
  · by_cases u0 : 0 ≤ u
    · have u1 : ¬ u ≤ 4 := by omega
      have u2 : ¬ u < 0 := by omega
      have u3 : 4 < u := by omega
      have h := call_runP 5 vm_X12_hold h
      have h := xw_top (hd := [28, 64, 101]) 20 xD6_ok xc_X12_hold xa_X12_hold (t := 0) rfl h
      simp (maxDischargeDepth := 12) -implicitDefEqProofs [vb_X12_hold_0, vb_X12_hold_16, vb_X12_hold_18, vb_X12_hold_28, vb_X12_hold_61, vb_X12_hold_64, vb_X12_hold_98, vb_X12_hold_101, vb_X12_hold_136, vb_X12_hold_154, vb_X12_hold_163, vb_X12_hold_167, vb_X12_hold_168, vb_X12_hold_170, vb_X12_hold_176, vb_X12_hold_188, vb_X12_hold_200, vb_X12_hold_201, xI_0, xI_1, xI_3, xI_6, xI_7, xI_14, xI_36, xI_37, xI_38, xI_39, xI_43, xI_44, xI_46, xI_48, xI_49, xI_51, xI_60, xI_61, xI_62, xw_X12_hold_0, xw_X12_hold_16, xw_X12_hold_18, xw_X12_hold_28, xw_X12_hold_61, xw_X12_hold_64, xw_X12_hold_98, xw_X12_hold_101, xw_X12_hold_136, xw_X12_hold_154, xw_X12_hold_163, xw_X12_hold_167, xw_X12_hold_168, xw_X12_hold_170, xw_X12_hold_176, xw_X12_hold_188, xw_X12_hold_200, xw_X12_hold_201, zw_lit, xB_c, xB_s, xB_n, i1_c, j2_c, k1_c, jJ_e, xlg, xls, xla, xpd, ppush, zw_m1, zw_m2, zw_m3, gf_12_0, gf_12_35, gf_12_36, gf_12_39, gf_12_40, tg_12_0, tg_12_35, tg_12_36, tg_12_39, tg_12_40, gv_590_0, gv_590_35, gv_590_36, gv_590_39, gv_590_40, xD1, xD2, xD3, xD4, xD5, xD6, xb1_0, u0, u1, u2, u3] at h
      exact ⟨_, _, h, by unfold hdQ; rw [if_neg (by omega)], MQs_refl⟩
    · have u2 : u < 0 := by omega
      have h := call_runP 5 vm_X12_hold h
      have h := xw_top (hd := [28, 64, 101]) 20 xD6_ok xc_X12_hold xa_X12_hold (t := 0) rfl h
      simp (maxDischargeDepth := 12) -implicitDefEqProofs [vb_X12_hold_0, vb_X12_hold_16, vb_X12_hold_18, vb_X12_hold_28, vb_X12_hold_61, vb_X12_hold_64, vb_X12_hold_98, vb_X12_hold_101, vb_X12_hold_136, vb_X12_hold_154, vb_X12_hold_163, vb_X12_hold_167, vb_X12_hold_168, vb_X12_hold_170, vb_X12_hold_176, vb_X12_hold_188, vb_X12_hold_200, vb_X12_hold_201, xI_0, xI_1, xI_3, xI_6, xI_7, xI_14, xI_36, xI_37, xI_38, xI_39, xI_43, xI_44, xI_46, xI_48, xI_49, xI_51, xI_60, xI_61, xI_62, xw_X12_hold_0, xw_X12_hold_16, xw_X12_hold_18, xw_X12_hold_28, xw_X12_hold_61, xw_X12_hold_64, xw_X12_hold_98, xw_X12_hold_101, xw_X12_hold_136, xw_X12_hold_154, xw_X12_hold_163, xw_X12_hold_167, xw_X12_hold_168, xw_X12_hold_170, xw_X12_hold_176, xw_X12_hold_188, xw_X12_hold_200, xw_X12_hold_201, zw_lit, xB_c, xB_s, xB_n, i1_c, j2_c, k1_c, jJ_e, xlg, xls, xla, xpd, ppush, zw_m1, zw_m2, zw_m3, gf_12_0, gf_12_35, gf_12_36, gf_12_39, gf_12_40, tg_12_0, tg_12_35, tg_12_36, tg_12_39, tg_12_40, gv_590_0, gv_590_35, gv_590_36, gv_590_39, gv_590_40, xD1, xD2, xD3, xD4, xD5, xD6, xb1_0, u0, u2] at h
      exact ⟨_, _, h, by unfold hdQ; rw [if_neg (by omega)], MQs_refl⟩
theorem pr_close (u : Int) (H : PH) (h : REL H) : PAIR 130 [(2, 0), (0, u)] 245 [(2, 590), (0, u)] H := by
  obtain ⟨⟨S, n, rl⟩, tp⟩ := h
  intro E N res hh
  obtain ⟨r, H1, g, rfl, cq⟩ := sp_c_close u S n H rl.2.1 rl.2.2.1 E N res hh
  refine ⟨_, H1, g, ⟨_, rfl⟩, ?_⟩
  obtain ⟨x1, x2, x3, x4, x5⟩ := RL_mid rl cq.2.2.1
  intro E N res hh
  obtain ⟨r', H2, g', rfl, mq⟩ := sp_m_close u H1 x4 E N res hh
  exact ⟨_, H2, g', by rw [x1], REL_MQ (REL_CQ rl tp cq) mq⟩
theorem pr_hold (u w : Int) (H : PH) (h : REL H) : PAIR 129 [(2, 0), (0, u), (0, w)] 244 [(2, 590), (0, u), (0, w)] H := by
  obtain ⟨⟨S, n, rl⟩, tp⟩ := h
  intro E N res hh
  obtain ⟨r, H1, g, rfl, cq⟩ := sp_c_hold u w S n H rl.2.1 rl.2.2.1 E N res hh
  refine ⟨_, H1, g, ⟨_, rfl⟩, ?_⟩
  obtain ⟨x1, x2, x3, x4, x5⟩ := RL_mid rl cq.2.2.1
  intro E N res hh
  obtain ⟨r', H2, g', rfl, mq⟩ := sp_m_hold u w H1 x4 E N res hh
  exact ⟨_, H2, g', by rw [x1], REL_MQ (REL_CQ rl tp cq) mq⟩
