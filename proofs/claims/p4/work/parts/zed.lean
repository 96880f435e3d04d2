def xm_X5_couldMend : List xbT := [(0, vb_X5_couldMend_0, some 16), (16, vb_X5_couldMend_16, some 22), (22, vb_X5_couldMend_22, none)]
theorem xc_X5_couldMend : xOK kd_X5_couldMend xm_X5_couldMend := ⟨ve_X5_couldMend_0, ve_X5_couldMend_16, ve_X5_couldMend_22, trivial⟩
theorem xa_X5_couldMend : xm_X5_couldMend.all (fun q => aOKb q.2.1 && !q.2.1.isEmpty) = true := by decide +kernel
theorem xw_X5_couldMend_0 {E : xE} {res : xR} {N : Nat} {hd : List Nat} {C : xCT} {k : Nat} {L : List Int} {st : List pv} {H : PH} : xW E res N kd_X5_couldMend xm_X5_couldMend hd C (k + 1) 0 L st H = xB (fun t L st H => if t ∈ hd then xJ E res N kd_X5_couldMend t L st H else xW E res N kd_X5_couldMend xm_X5_couldMend hd C k t L st H) (REPR E res) C (some 16) vb_X5_couldMend_0 0 L st H := Eq.trans rfl rfl
theorem xw_X5_couldMend_16 {E : xE} {res : xR} {N : Nat} {hd : List Nat} {C : xCT} {k : Nat} {L : List Int} {st : List pv} {H : PH} : xW E res N kd_X5_couldMend xm_X5_couldMend hd C (k + 1) 16 L st H = xB (fun t L st H => if t ∈ hd then xJ E res N kd_X5_couldMend t L st H else xW E res N kd_X5_couldMend xm_X5_couldMend hd C k t L st H) (REPR E res) C (some 22) vb_X5_couldMend_16 16 L st H := Eq.trans rfl rfl
theorem xw_X5_couldMend_22 {E : xE} {res : xR} {N : Nat} {hd : List Nat} {C : xCT} {k : Nat} {L : List Int} {st : List pv} {H : PH} : xW E res N kd_X5_couldMend xm_X5_couldMend hd C (k + 1) 22 L st H = xB (fun t L st H => if t ∈ hd then xJ E res N kd_X5_couldMend t L st H else xW E res N kd_X5_couldMend xm_X5_couldMend hd C k t L st H) (REPR E res) C (none) vb_X5_couldMend_22 22 L st H := Eq.trans rfl rfl
def xm_X11_blame : List xbT := [(0, vb_X11_blame_0, some 16), (16, vb_X11_blame_16, some 19), (19, vb_X11_blame_19, some 37), (37, vb_X11_blame_37, some 97), (97, vb_X11_blame_97, some 99), (99, vb_X11_blame_99, some 104), (104, vb_X11_blame_104, some 110), (110, vb_X11_blame_110, some 119), (119, vb_X11_blame_119, some 121), (121, vb_X11_blame_121, none)]
theorem xc_X11_blame : xOK kd_X11_blame xm_X11_blame := ⟨ve_X11_blame_0, ve_X11_blame_16, ve_X11_blame_19, ve_X11_blame_37, ve_X11_blame_97, ve_X11_blame_99, ve_X11_blame_104, ve_X11_blame_110, ve_X11_blame_119, ve_X11_blame_121, trivial⟩
theorem xa_X11_blame : xm_X11_blame.all (fun q => aOKb q.2.1 && !q.2.1.isEmpty) = true := by decide +kernel
theorem xw_X11_blame_0 {E : xE} {res : xR} {N : Nat} {hd : List Nat} {C : xCT} {k : Nat} {L : List Int} {st : List pv} {H : PH} : xW E res N kd_X11_blame xm_X11_blame hd C (k + 1) 0 L st H = xB (fun t L st H => if t ∈ hd then xJ E res N kd_X11_blame t L st H else xW E res N kd_X11_blame xm_X11_blame hd C k t L st H) (REPR E res) C (some 16) vb_X11_blame_0 0 L st H := Eq.trans rfl rfl
theorem xw_X11_blame_16 {E : xE} {res : xR} {N : Nat} {hd : List Nat} {C : xCT} {k : Nat} {L : List Int} {st : List pv} {H : PH} : xW E res N kd_X11_blame xm_X11_blame hd C (k + 1) 16 L st H = xB (fun t L st H => if t ∈ hd then xJ E res N kd_X11_blame t L st H else xW E res N kd_X11_blame xm_X11_blame hd C k t L st H) (REPR E res) C (some 19) vb_X11_blame_16 16 L st H := Eq.trans rfl rfl
theorem xw_X11_blame_19 {E : xE} {res : xR} {N : Nat} {hd : List Nat} {C : xCT} {k : Nat} {L : List Int} {st : List pv} {H : PH} : xW E res N kd_X11_blame xm_X11_blame hd C (k + 1) 19 L st H = xB (fun t L st H => if t ∈ hd then xJ E res N kd_X11_blame t L st H else xW E res N kd_X11_blame xm_X11_blame hd C k t L st H) (REPR E res) C (some 37) vb_X11_blame_19 19 L st H := Eq.trans rfl rfl
theorem xw_X11_blame_37 {E : xE} {res : xR} {N : Nat} {hd : List Nat} {C : xCT} {k : Nat} {L : List Int} {st : List pv} {H : PH} : xW E res N kd_X11_blame xm_X11_blame hd C (k + 1) 37 L st H = xB (fun t L st H => if t ∈ hd then xJ E res N kd_X11_blame t L st H else xW E res N kd_X11_blame xm_X11_blame hd C k t L st H) (REPR E res) C (some 97) vb_X11_blame_37 37 L st H := Eq.trans rfl rfl
theorem xw_X11_blame_97 {E : xE} {res : xR} {N : Nat} {hd : List Nat} {C : xCT} {k : Nat} {L : List Int} {st : List pv} {H : PH} : xW E res N kd_X11_blame xm_X11_blame hd C (k + 1) 97 L st H = xB (fun t L st H => if t ∈ hd then xJ E res N kd_X11_blame t L st H else xW E res N kd_X11_blame xm_X11_blame hd C k t L st H) (REPR E res) C (some 99) vb_X11_blame_97 97 L st H := Eq.trans rfl rfl
theorem xw_X11_blame_99 {E : xE} {res : xR} {N : Nat} {hd : List Nat} {C : xCT} {k : Nat} {L : List Int} {st : List pv} {H : PH} : xW E res N kd_X11_blame xm_X11_blame hd C (k + 1) 99 L st H = xB (fun t L st H => if t ∈ hd then xJ E res N kd_X11_blame t L st H else xW E res N kd_X11_blame xm_X11_blame hd C k t L st H) (REPR E res) C (some 104) vb_X11_blame_99 99 L st H := Eq.trans rfl rfl
theorem xw_X11_blame_104 {E : xE} {res : xR} {N : Nat} {hd : List Nat} {C : xCT} {k : Nat} {L : List Int} {st : List pv} {H : PH} : xW E res N kd_X11_blame xm_X11_blame hd C (k + 1) 104 L st H = xB (fun t L st H => if t ∈ hd then xJ E res N kd_X11_blame t L st H else xW E res N kd_X11_blame xm_X11_blame hd C k t L st H) (REPR E res) C (some 110) vb_X11_blame_104 104 L st H := Eq.trans rfl rfl
theorem xw_X11_blame_110 {E : xE} {res : xR} {N : Nat} {hd : List Nat} {C : xCT} {k : Nat} {L : List Int} {st : List pv} {H : PH} : xW E res N kd_X11_blame xm_X11_blame hd C (k + 1) 110 L st H = xB (fun t L st H => if t ∈ hd then xJ E res N kd_X11_blame t L st H else xW E res N kd_X11_blame xm_X11_blame hd C k t L st H) (REPR E res) C (some 119) vb_X11_blame_110 110 L st H := Eq.trans rfl rfl
theorem xw_X11_blame_119 {E : xE} {res : xR} {N : Nat} {hd : List Nat} {C : xCT} {k : Nat} {L : List Int} {st : List pv} {H : PH} : xW E res N kd_X11_blame xm_X11_blame hd C (k + 1) 119 L st H = xB (fun t L st H => if t ∈ hd then xJ E res N kd_X11_blame t L st H else xW E res N kd_X11_blame xm_X11_blame hd C k t L st H) (REPR E res) C (some 121) vb_X11_blame_119 119 L st H := Eq.trans rfl rfl
theorem xw_X11_blame_121 {E : xE} {res : xR} {N : Nat} {hd : List Nat} {C : xCT} {k : Nat} {L : List Int} {st : List pv} {H : PH} : xW E res N kd_X11_blame xm_X11_blame hd C (k + 1) 121 L st H = xB (fun t L st H => if t ∈ hd then xJ E res N kd_X11_blame t L st H else xW E res N kd_X11_blame xm_X11_blame hd C k t L st H) (REPR E res) C (none) vb_X11_blame_121 121 L st H := Eq.trans rfl rfl
def xm_X11_twin : List xbT := [(0, vb_X11_twin_0, some 17), (17, vb_X11_twin_17, some 19), (19, vb_X11_twin_19, some 27), (27, vb_X11_twin_27, some 94), (94, vb_X11_twin_94, some 101), (101, vb_X11_twin_101, some 107), (107, vb_X11_twin_107, some 115), (115, vb_X11_twin_115, some 117), (117, vb_X11_twin_117, none)]
theorem xc_X11_twin : xOK kd_X11_twin xm_X11_twin := ⟨ve_X11_twin_0, ve_X11_twin_17, ve_X11_twin_19, ve_X11_twin_27, ve_X11_twin_94, ve_X11_twin_101, ve_X11_twin_107, ve_X11_twin_115, ve_X11_twin_117, trivial⟩
theorem xa_X11_twin : xm_X11_twin.all (fun q => aOKb q.2.1 && !q.2.1.isEmpty) = true := by decide +kernel
theorem xw_X11_twin_0 {E : xE} {res : xR} {N : Nat} {hd : List Nat} {C : xCT} {k : Nat} {L : List Int} {st : List pv} {H : PH} : xW E res N kd_X11_twin xm_X11_twin hd C (k + 1) 0 L st H = xB (fun t L st H => if t ∈ hd then xJ E res N kd_X11_twin t L st H else xW E res N kd_X11_twin xm_X11_twin hd C k t L st H) (REPR E res) C (some 17) vb_X11_twin_0 0 L st H := Eq.trans rfl rfl
theorem xw_X11_twin_17 {E : xE} {res : xR} {N : Nat} {hd : List Nat} {C : xCT} {k : Nat} {L : List Int} {st : List pv} {H : PH} : xW E res N kd_X11_twin xm_X11_twin hd C (k + 1) 17 L st H = xB (fun t L st H => if t ∈ hd then xJ E res N kd_X11_twin t L st H else xW E res N kd_X11_twin xm_X11_twin hd C k t L st H) (REPR E res) C (some 19) vb_X11_twin_17 17 L st H := Eq.trans rfl rfl
theorem xw_X11_twin_19 {E : xE} {res : xR} {N : Nat} {hd : List Nat} {C : xCT} {k : Nat} {L : List Int} {st : List pv} {H : PH} : xW E res N kd_X11_twin xm_X11_twin hd C (k + 1) 19 L st H = xB (fun t L st H => if t ∈ hd then xJ E res N kd_X11_twin t L st H else xW E res N kd_X11_twin xm_X11_twin hd C k t L st H) (REPR E res) C (some 27) vb_X11_twin_19 19 L st H := Eq.trans rfl rfl
theorem xw_X11_twin_27 {E : xE} {res : xR} {N : Nat} {hd : List Nat} {C : xCT} {k : Nat} {L : List Int} {st : List pv} {H : PH} : xW E res N kd_X11_twin xm_X11_twin hd C (k + 1) 27 L st H = xB (fun t L st H => if t ∈ hd then xJ E res N kd_X11_twin t L st H else xW E res N kd_X11_twin xm_X11_twin hd C k t L st H) (REPR E res) C (some 94) vb_X11_twin_27 27 L st H := Eq.trans rfl rfl
theorem xw_X11_twin_94 {E : xE} {res : xR} {N : Nat} {hd : List Nat} {C : xCT} {k : Nat} {L : List Int} {st : List pv} {H : PH} : xW E res N kd_X11_twin xm_X11_twin hd C (k + 1) 94 L st H = xB (fun t L st H => if t ∈ hd then xJ E res N kd_X11_twin t L st H else xW E res N kd_X11_twin xm_X11_twin hd C k t L st H) (REPR E res) C (some 101) vb_X11_twin_94 94 L st H := Eq.trans rfl rfl
theorem xw_X11_twin_101 {E : xE} {res : xR} {N : Nat} {hd : List Nat} {C : xCT} {k : Nat} {L : List Int} {st : List pv} {H : PH} : xW E res N kd_X11_twin xm_X11_twin hd C (k + 1) 101 L st H = xB (fun t L st H => if t ∈ hd then xJ E res N kd_X11_twin t L st H else xW E res N kd_X11_twin xm_X11_twin hd C k t L st H) (REPR E res) C (some 107) vb_X11_twin_101 101 L st H := Eq.trans rfl rfl
theorem xw_X11_twin_107 {E : xE} {res : xR} {N : Nat} {hd : List Nat} {C : xCT} {k : Nat} {L : List Int} {st : List pv} {H : PH} : xW E res N kd_X11_twin xm_X11_twin hd C (k + 1) 107 L st H = xB (fun t L st H => if t ∈ hd then xJ E res N kd_X11_twin t L st H else xW E res N kd_X11_twin xm_X11_twin hd C k t L st H) (REPR E res) C (some 115) vb_X11_twin_107 107 L st H := Eq.trans rfl rfl
theorem xw_X11_twin_115 {E : xE} {res : xR} {N : Nat} {hd : List Nat} {C : xCT} {k : Nat} {L : List Int} {st : List pv} {H : PH} : xW E res N kd_X11_twin xm_X11_twin hd C (k + 1) 115 L st H = xB (fun t L st H => if t ∈ hd then xJ E res N kd_X11_twin t L st H else xW E res N kd_X11_twin xm_X11_twin hd C k t L st H) (REPR E res) C (some 117) vb_X11_twin_115 115 L st H := Eq.trans rfl rfl
theorem xw_X11_twin_117 {E : xE} {res : xR} {N : Nat} {hd : List Nat} {C : xCT} {k : Nat} {L : List Int} {st : List pv} {H : PH} : xW E res N kd_X11_twin xm_X11_twin hd C (k + 1) 117 L st H = xB (fun t L st H => if t ∈ hd then xJ E res N kd_X11_twin t L st H else xW E res N kd_X11_twin xm_X11_twin hd C k t L st H) (REPR E res) C (none) vb_X11_twin_117 117 L st H := Eq.trans rfl rfl
def xm_X12_blame : List xbT := [(0, vb_X12_blame_0, some 16), (16, vb_X12_blame_16, some 19), (19, vb_X12_blame_19, some 34), (34, vb_X12_blame_34, some 68), (68, vb_X12_blame_68, some 94), (94, vb_X12_blame_94, some 102), (102, vb_X12_blame_102, some 119), (119, vb_X12_blame_119, some 133), (133, vb_X12_blame_133, some 135), (135, vb_X12_blame_135, some 137), (137, vb_X12_blame_137, some 143), (143, vb_X12_blame_143, some 152), (152, vb_X12_blame_152, some 154), (154, vb_X12_blame_154, none)]
theorem xc_X12_blame : xOK kd_X12_blame xm_X12_blame := ⟨ve_X12_blame_0, ve_X12_blame_16, ve_X12_blame_19, ve_X12_blame_34, ve_X12_blame_68, ve_X12_blame_94, ve_X12_blame_102, ve_X12_blame_119, ve_X12_blame_133, ve_X12_blame_135, ve_X12_blame_137, ve_X12_blame_143, ve_X12_blame_152, ve_X12_blame_154, trivial⟩
theorem xa_X12_blame : xm_X12_blame.all (fun q => aOKb q.2.1 && !q.2.1.isEmpty) = true := by decide +kernel
theorem xw_X12_blame_0 {E : xE} {res : xR} {N : Nat} {hd : List Nat} {C : xCT} {k : Nat} {L : List Int} {st : List pv} {H : PH} : xW E res N kd_X12_blame xm_X12_blame hd C (k + 1) 0 L st H = xB (fun t L st H => if t ∈ hd then xJ E res N kd_X12_blame t L st H else xW E res N kd_X12_blame xm_X12_blame hd C k t L st H) (REPR E res) C (some 16) vb_X12_blame_0 0 L st H := Eq.trans rfl rfl
theorem xw_X12_blame_16 {E : xE} {res : xR} {N : Nat} {hd : List Nat} {C : xCT} {k : Nat} {L : List Int} {st : List pv} {H : PH} : xW E res N kd_X12_blame xm_X12_blame hd C (k + 1) 16 L st H = xB (fun t L st H => if t ∈ hd then xJ E res N kd_X12_blame t L st H else xW E res N kd_X12_blame xm_X12_blame hd C k t L st H) (REPR E res) C (some 19) vb_X12_blame_16 16 L st H := Eq.trans rfl rfl
theorem xw_X12_blame_19 {E : xE} {res : xR} {N : Nat} {hd : List Nat} {C : xCT} {k : Nat} {L : List Int} {st : List pv} {H : PH} : xW E res N kd_X12_blame xm_X12_blame hd C (k + 1) 19 L st H = xB (fun t L st H => if t ∈ hd then xJ E res N kd_X12_blame t L st H else xW E res N kd_X12_blame xm_X12_blame hd C k t L st H) (REPR E res) C (some 34) vb_X12_blame_19 19 L st H := Eq.trans rfl rfl
theorem xw_X12_blame_34 {E : xE} {res : xR} {N : Nat} {hd : List Nat} {C : xCT} {k : Nat} {L : List Int} {st : List pv} {H : PH} : xW E res N kd_X12_blame xm_X12_blame hd C (k + 1) 34 L st H = xB (fun t L st H => if t ∈ hd then xJ E res N kd_X12_blame t L st H else xW E res N kd_X12_blame xm_X12_blame hd C k t L st H) (REPR E res) C (some 68) vb_X12_blame_34 34 L st H := Eq.trans rfl rfl
theorem xw_X12_blame_68 {E : xE} {res : xR} {N : Nat} {hd : List Nat} {C : xCT} {k : Nat} {L : List Int} {st : List pv} {H : PH} : xW E res N kd_X12_blame xm_X12_blame hd C (k + 1) 68 L st H = xB (fun t L st H => if t ∈ hd then xJ E res N kd_X12_blame t L st H else xW E res N kd_X12_blame xm_X12_blame hd C k t L st H) (REPR E res) C (some 94) vb_X12_blame_68 68 L st H := Eq.trans rfl rfl
theorem xw_X12_blame_94 {E : xE} {res : xR} {N : Nat} {hd : List Nat} {C : xCT} {k : Nat} {L : List Int} {st : List pv} {H : PH} : xW E res N kd_X12_blame xm_X12_blame hd C (k + 1) 94 L st H = xB (fun t L st H => if t ∈ hd then xJ E res N kd_X12_blame t L st H else xW E res N kd_X12_blame xm_X12_blame hd C k t L st H) (REPR E res) C (some 102) vb_X12_blame_94 94 L st H := Eq.trans rfl rfl
theorem xw_X12_blame_102 {E : xE} {res : xR} {N : Nat} {hd : List Nat} {C : xCT} {k : Nat} {L : List Int} {st : List pv} {H : PH} : xW E res N kd_X12_blame xm_X12_blame hd C (k + 1) 102 L st H = xB (fun t L st H => if t ∈ hd then xJ E res N kd_X12_blame t L st H else xW E res N kd_X12_blame xm_X12_blame hd C k t L st H) (REPR E res) C (some 119) vb_X12_blame_102 102 L st H := Eq.trans rfl rfl
theorem xw_X12_blame_119 {E : xE} {res : xR} {N : Nat} {hd : List Nat} {C : xCT} {k : Nat} {L : List Int} {st : List pv} {H : PH} : xW E res N kd_X12_blame xm_X12_blame hd C (k + 1) 119 L st H = xB (fun t L st H => if t ∈ hd then xJ E res N kd_X12_blame t L st H else xW E res N kd_X12_blame xm_X12_blame hd C k t L st H) (REPR E res) C (some 133) vb_X12_blame_119 119 L st H := Eq.trans rfl rfl
theorem xw_X12_blame_133 {E : xE} {res : xR} {N : Nat} {hd : List Nat} {C : xCT} {k : Nat} {L : List Int} {st : List pv} {H : PH} : xW E res N kd_X12_blame xm_X12_blame hd C (k + 1) 133 L st H = xB (fun t L st H => if t ∈ hd then xJ E res N kd_X12_blame t L st H else xW E res N kd_X12_blame xm_X12_blame hd C k t L st H) (REPR E res) C (some 135) vb_X12_blame_133 133 L st H := Eq.trans rfl rfl
theorem xw_X12_blame_135 {E : xE} {res : xR} {N : Nat} {hd : List Nat} {C : xCT} {k : Nat} {L : List Int} {st : List pv} {H : PH} : xW E res N kd_X12_blame xm_X12_blame hd C (k + 1) 135 L st H = xB (fun t L st H => if t ∈ hd then xJ E res N kd_X12_blame t L st H else xW E res N kd_X12_blame xm_X12_blame hd C k t L st H) (REPR E res) C (some 137) vb_X12_blame_135 135 L st H := Eq.trans rfl rfl
theorem xw_X12_blame_137 {E : xE} {res : xR} {N : Nat} {hd : List Nat} {C : xCT} {k : Nat} {L : List Int} {st : List pv} {H : PH} : xW E res N kd_X12_blame xm_X12_blame hd C (k + 1) 137 L st H = xB (fun t L st H => if t ∈ hd then xJ E res N kd_X12_blame t L st H else xW E res N kd_X12_blame xm_X12_blame hd C k t L st H) (REPR E res) C (some 143) vb_X12_blame_137 137 L st H := Eq.trans rfl rfl
theorem xw_X12_blame_143 {E : xE} {res : xR} {N : Nat} {hd : List Nat} {C : xCT} {k : Nat} {L : List Int} {st : List pv} {H : PH} : xW E res N kd_X12_blame xm_X12_blame hd C (k + 1) 143 L st H = xB (fun t L st H => if t ∈ hd then xJ E res N kd_X12_blame t L st H else xW E res N kd_X12_blame xm_X12_blame hd C k t L st H) (REPR E res) C (some 152) vb_X12_blame_143 143 L st H := Eq.trans rfl rfl
theorem xw_X12_blame_152 {E : xE} {res : xR} {N : Nat} {hd : List Nat} {C : xCT} {k : Nat} {L : List Int} {st : List pv} {H : PH} : xW E res N kd_X12_blame xm_X12_blame hd C (k + 1) 152 L st H = xB (fun t L st H => if t ∈ hd then xJ E res N kd_X12_blame t L st H else xW E res N kd_X12_blame xm_X12_blame hd C k t L st H) (REPR E res) C (some 154) vb_X12_blame_152 152 L st H := Eq.trans rfl rfl
theorem xw_X12_blame_154 {E : xE} {res : xR} {N : Nat} {hd : List Nat} {C : xCT} {k : Nat} {L : List Int} {st : List pv} {H : PH} : xW E res N kd_X12_blame xm_X12_blame hd C (k + 1) 154 L st H = xB (fun t L st H => if t ∈ hd then xJ E res N kd_X12_blame t L st H else xW E res N kd_X12_blame xm_X12_blame hd C k t L st H) (REPR E res) C (none) vb_X12_blame_154 154 L st H := Eq.trans rfl rfl
def xm_X12_twin : List xbT := [(0, vb_X12_twin_0, some 17), (17, vb_X12_twin_17, some 19), (19, vb_X12_twin_19, some 27), (27, vb_X12_twin_27, some 47), (47, vb_X12_twin_47, some 71), (71, vb_X12_twin_71, some 78), (78, vb_X12_twin_78, some 84), (84, vb_X12_twin_84, some 92), (92, vb_X12_twin_92, some 94), (94, vb_X12_twin_94, none)]
theorem xc_X12_twin : xOK kd_X12_twin xm_X12_twin := ⟨ve_X12_twin_0, ve_X12_twin_17, ve_X12_twin_19, ve_X12_twin_27, ve_X12_twin_47, ve_X12_twin_71, ve_X12_twin_78, ve_X12_twin_84, ve_X12_twin_92, ve_X12_twin_94, trivial⟩
theorem xa_X12_twin : xm_X12_twin.all (fun q => aOKb q.2.1 && !q.2.1.isEmpty) = true := by decide +kernel
theorem xw_X12_twin_0 {E : xE} {res : xR} {N : Nat} {hd : List Nat} {C : xCT} {k : Nat} {L : List Int} {st : List pv} {H : PH} : xW E res N kd_X12_twin xm_X12_twin hd C (k + 1) 0 L st H = xB (fun t L st H => if t ∈ hd then xJ E res N kd_X12_twin t L st H else xW E res N kd_X12_twin xm_X12_twin hd C k t L st H) (REPR E res) C (some 17) vb_X12_twin_0 0 L st H := Eq.trans rfl rfl
theorem xw_X12_twin_17 {E : xE} {res : xR} {N : Nat} {hd : List Nat} {C : xCT} {k : Nat} {L : List Int} {st : List pv} {H : PH} : xW E res N kd_X12_twin xm_X12_twin hd C (k + 1) 17 L st H = xB (fun t L st H => if t ∈ hd then xJ E res N kd_X12_twin t L st H else xW E res N kd_X12_twin xm_X12_twin hd C k t L st H) (REPR E res) C (some 19) vb_X12_twin_17 17 L st H := Eq.trans rfl rfl
theorem xw_X12_twin_19 {E : xE} {res : xR} {N : Nat} {hd : List Nat} {C : xCT} {k : Nat} {L : List Int} {st : List pv} {H : PH} : xW E res N kd_X12_twin xm_X12_twin hd C (k + 1) 19 L st H = xB (fun t L st H => if t ∈ hd then xJ E res N kd_X12_twin t L st H else xW E res N kd_X12_twin xm_X12_twin hd C k t L st H) (REPR E res) C (some 27) vb_X12_twin_19 19 L st H := Eq.trans rfl rfl
theorem xw_X12_twin_27 {E : xE} {res : xR} {N : Nat} {hd : List Nat} {C : xCT} {k : Nat} {L : List Int} {st : List pv} {H : PH} : xW E res N kd_X12_twin xm_X12_twin hd C (k + 1) 27 L st H = xB (fun t L st H => if t ∈ hd then xJ E res N kd_X12_twin t L st H else xW E res N kd_X12_twin xm_X12_twin hd C k t L st H) (REPR E res) C (some 47) vb_X12_twin_27 27 L st H := Eq.trans rfl rfl
theorem xw_X12_twin_47 {E : xE} {res : xR} {N : Nat} {hd : List Nat} {C : xCT} {k : Nat} {L : List Int} {st : List pv} {H : PH} : xW E res N kd_X12_twin xm_X12_twin hd C (k + 1) 47 L st H = xB (fun t L st H => if t ∈ hd then xJ E res N kd_X12_twin t L st H else xW E res N kd_X12_twin xm_X12_twin hd C k t L st H) (REPR E res) C (some 71) vb_X12_twin_47 47 L st H := Eq.trans rfl rfl
theorem xw_X12_twin_71 {E : xE} {res : xR} {N : Nat} {hd : List Nat} {C : xCT} {k : Nat} {L : List Int} {st : List pv} {H : PH} : xW E res N kd_X12_twin xm_X12_twin hd C (k + 1) 71 L st H = xB (fun t L st H => if t ∈ hd then xJ E res N kd_X12_twin t L st H else xW E res N kd_X12_twin xm_X12_twin hd C k t L st H) (REPR E res) C (some 78) vb_X12_twin_71 71 L st H := Eq.trans rfl rfl
theorem xw_X12_twin_78 {E : xE} {res : xR} {N : Nat} {hd : List Nat} {C : xCT} {k : Nat} {L : List Int} {st : List pv} {H : PH} : xW E res N kd_X12_twin xm_X12_twin hd C (k + 1) 78 L st H = xB (fun t L st H => if t ∈ hd then xJ E res N kd_X12_twin t L st H else xW E res N kd_X12_twin xm_X12_twin hd C k t L st H) (REPR E res) C (some 84) vb_X12_twin_78 78 L st H := Eq.trans rfl rfl
theorem xw_X12_twin_84 {E : xE} {res : xR} {N : Nat} {hd : List Nat} {C : xCT} {k : Nat} {L : List Int} {st : List pv} {H : PH} : xW E res N kd_X12_twin xm_X12_twin hd C (k + 1) 84 L st H = xB (fun t L st H => if t ∈ hd then xJ E res N kd_X12_twin t L st H else xW E res N kd_X12_twin xm_X12_twin hd C k t L st H) (REPR E res) C (some 92) vb_X12_twin_84 84 L st H := Eq.trans rfl rfl
theorem xw_X12_twin_92 {E : xE} {res : xR} {N : Nat} {hd : List Nat} {C : xCT} {k : Nat} {L : List Int} {st : List pv} {H : PH} : xW E res N kd_X12_twin xm_X12_twin hd C (k + 1) 92 L st H = xB (fun t L st H => if t ∈ hd then xJ E res N kd_X12_twin t L st H else xW E res N kd_X12_twin xm_X12_twin hd C k t L st H) (REPR E res) C (some 94) vb_X12_twin_92 92 L st H := Eq.trans rfl rfl
theorem xw_X12_twin_94 {E : xE} {res : xR} {N : Nat} {hd : List Nat} {C : xCT} {k : Nat} {L : List Int} {st : List pv} {H : PH} : xW E res N kd_X12_twin xm_X12_twin hd C (k + 1) 94 L st H = xB (fun t L st H => if t ∈ hd then xJ E res N kd_X12_twin t L st H else xW E res N kd_X12_twin xm_X12_twin hd C k t L st H) (REPR E res) C (none) vb_X12_twin_94 94 L st H := Eq.trans rfl rfl
/-! ===== blame, twin: both sides ===== -/
abbrev bmV (A : Int → Int) (d k : Int) : Int := if A (404 + 12 * k) = 0 then A (404 + 12 * k + 2) - d else A (404 + 12 * k + 2) + d
abbrev bmC (A : Int → Int) (h d k : Int) : Prop := A (404 + 12 * k + 1) = h ∧ 1 ≤ bmV A d k ∧ bmV A d k ≤ 999
def bmS (A : Int → Int) (h d k : Int) (s : Int × Int) : Int × Int := if bmC A h d k then (s.1 + 1, if s.1 = 0 then k else s.2) else s
def bmF (A : Int → Int) (h d : Int) : Nat → Int → Int × Int → Int × Int
  | 0, _, s => s
  | n + 1, k, s => bmF A h d n (k + 1) (bmS A h d k s)
def bmZ (A : Int → Int) (h : Int) : Int × Int := if blQ A h 0 - blQ A h 1 = 0 then (0, -1) else bmF A h (blQ A h 0 - blQ A h 1) (A 2).toNat 0 (0, -1)
def bmQ (A : Int → Int) (h w : Int) : Int := if (0 ≤ h ∧ h ≤ 4) ∧ (0 ≤ w ∧ w ≤ 1) then (if w = 0 then (bmZ A h).1 else (bmZ A h).2) else -2
def twS (f : Int → Int) (b i : Int) (s : Int × Int) : Int × Int := if ¬ i = b ∧ (s.1 = -1 ∨ f i < s.2) then (i, f i) else s
def twF (f : Int → Int) (b : Int) : Nat → Int → Int × Int → Int × Int
  | 0, _, s => s
  | n + 1, i, s => twF f b n (i + 1) (twS f b i s)
def twZ (A : Int → Int) (b : Int) : Int × Int := twF (fun i => bapA A i b) b (A 0).toNat 0 (-1, -1)
def twQ (A : Int → Int) (b w : Int) : Int := if (0 ≤ b ∧ b < A 0) ∧ (0 ≤ w ∧ w ≤ 1) then (if w = 0 then (twZ A b).1 else (twZ A b).2) else -1
set_option maxRecDepth 100000 in
theorem sp_X5_couldMend (q d : Int) (H : PH) (kq : KL q) : SPEC 55 [(2, q), (0, d)] H (fun r H' => r = some (0, xb1 (1 ≤ (if H q 0 = 0 then zw (H q 2 - d) else zw (H q 2 + d)) ∧ (if H q 0 = 0 then zw (H q 2 - d) else zw (H q 2 + d)) ≤ 999)) ∧ H' = H) := by
  intro E n' res h
  obtain ⟨f5, g0, g1, g2, g3, g4, _⟩ := KL_f kq
  by_cases c : H q 0 = 0
  · have h := call_runP 2 vm_X5_couldMend h
    have h := xw_top (hd := []) 5 xD6_ok xc_X5_couldMend xa_X5_couldMend (t := 0) rfl h
    simp (maxDischargeDepth := 12) -implicitDefEqProofs [vb_X5_couldMend_0, vb_X5_couldMend_16, vb_X5_couldMend_22, xI_0, xI_1, xI_7, xI_9, xI_14, xI_15, xI_36, xI_38, xI_49, xI_60, xI_62, xw_X5_couldMend_0, xw_X5_couldMend_16, xw_X5_couldMend_22, zw_lit, xB_c, xB_s, xB_n, i1_c, j2_c, k1_c, jJ_e, xlg, xls, xla, xpd, ppush, zw_m1, zw_m2, zw_m3, gf_5_0, gf_5_2, tg_5_0, tg_5_2, xD1, xD2, xD3, xD4, xD5, xD6, xb1_0, g0, g2, c] at h
    exact ⟨_, H, h, by rw [if_pos c], rfl⟩
  · have h := call_runP 2 vm_X5_couldMend h
    have h := xw_top (hd := []) 5 xD6_ok xc_X5_couldMend xa_X5_couldMend (t := 0) rfl h
    simp (maxDischargeDepth := 12) -implicitDefEqProofs [vb_X5_couldMend_0, vb_X5_couldMend_16, vb_X5_couldMend_22, xI_0, xI_1, xI_7, xI_9, xI_14, xI_15, xI_36, xI_38, xI_49, xI_60, xI_62, xw_X5_couldMend_0, xw_X5_couldMend_16, xw_X5_couldMend_22, zw_lit, xB_c, xB_s, xB_n, i1_c, j2_c, k1_c, jJ_e, xlg, xls, xla, xpd, ppush, zw_m1, zw_m2, zw_m3, gf_5_0, gf_5_2, tg_5_0, tg_5_2, xD1, xD2, xD3, xD4, xD5, xD6, xb1_0, g0, g2, c] at h
    exact ⟨_, H, h, by rw [if_neg c], rfl⟩
set_option maxRecDepth 100000 in
theorem lp_cbm (h w d : Int) (A : Int → Int) (H : PH) (hB : MB A) (hX : OKX A) (ci : CI H A) (hd : ¬ d = 0) (hd2 : -60000 ≤ d ∧ d ≤ 60000) (hw : 0 ≤ w ∧ w ≤ 1) {E : xE} {res : xR} : ∀ (n : Nat) (k : Int) (s : Int × Int), 0 ≤ k → k ≤ A 2 → 0 ≤ s.1 → s.1 ≤ k → RUN E res n kd_X11_blame (zget kd_X11_blame 37) 37 [0, h, w, d, s.2, s.1, k] [] H → REPR E res (some (0, if w = 0 then (bmF A h d (A 2 - k).toNat k s).1 else (bmF A h d (A 2 - k).toNat k s).2)) H := by
  intro n
  induction n using Nat.strongRecOn with
  | _ n ih =>
    intro k s k0 k1 m0 m1 hh
    have a2 := hB.2.2.1
    have e4 : H 1 4 = A 2 := ci.1.1.2.2.1.symm
    have z1 : zw (k + 1) = k + 1 := zw_lit (by omega) (by omega)
    have zm : zw (s.1 + 1) = s.1 + 1 := zw_lit (by omega) (by omega)
    by_cases c : k < A 2
    · have c' : ¬ A 2 ≤ k := by omega
      have kq := ci.2.2.1 k k0 (by omega)
      obtain ⟨l0, l1, l2, l3⟩ := ci.1.2.2.1 k k0 c
      obtain ⟨f5, g0, g1, g2, g3, g4, _⟩ := KL_f kq
      have ox := (hX.2 k k0 c).2.2
      have za : zw (A (404 + 12 * k + 2) - d) = A (404 + 12 * k + 2) - d := zw_lit (by omega) (by omega)
      have zb : zw (A (404 + 12 * k + 2) + d) = A (404 + 12 * k + 2) + d := zw_lit (by omega) (by omega)
      have st : (A 2 - k).toNat = (A 2 - (k + 1)).toNat + 1 := by omega
      rw [st]
      unfold bmF
      by_cases q : A (404 + 12 * k + 1) = h
      · have hh := xw_top (hd := [37]) 12 xD6_ok xc_X11_blame xa_X11_blame (t := 37) rfl hh
        simp (maxDischargeDepth := 12) -implicitDefEqProofs [vb_X11_blame_0, vb_X11_blame_16, vb_X11_blame_19, vb_X11_blame_37, vb_X11_blame_97, vb_X11_blame_99, vb_X11_blame_104, vb_X11_blame_110, vb_X11_blame_119, vb_X11_blame_121, xI_0, xI_1, xI_3, xI_6, xI_7, xI_8, xI_36, xI_37, xI_38, xI_44, xI_46, xI_49, xI_53, xI_60, xI_61, xI_62, xw_X11_blame_0, xw_X11_blame_16, xw_X11_blame_19, xw_X11_blame_37, xw_X11_blame_97, xw_X11_blame_99, xw_X11_blame_104, xw_X11_blame_110, xw_X11_blame_119, xw_X11_blame_121, zw_lit, xB_c, xB_s, xB_n, i1_c, j2_c, k1_c, jJ_e, xlg, xls, xla, xpd, ppush, zw_m1, zw_m2, zw_m3, gf_1_3, gf_1_4, gf_5_1, gf_11_0, tg_11_0, tg_1_3, tg_1_4, tg_5_1, gv_1_3, gv_1_4, gv_0_0, xD1, xD2, xD3, xD4, xD5, xD6, xb1_0, e4, c, c', hd, gv47, g1, ← l1, q] at hh
        obtain ⟨r, H1, ⟨rfl, rfl⟩, g⟩ := xc_use hh (sp_X5_couldMend (H 47 k) d H kq)
        rw [← l0, ← l2, za, zb] at g
        by_cases q2 : 1 ≤ bmV A d k ∧ bmV A d k ≤ 999
        · have b1 : xb1 (1 ≤ (if A (404 + 12 * k) = 0 then A (404 + 12 * k + 2) - d else A (404 + 12 * k + 2) + d) ∧ (if A (404 + 12 * k) = 0 then A (404 + 12 * k + 2) - d else A (404 + 12 * k + 2) + d) ≤ 999) = 1 := if_pos q2
          rw [b1] at g
          have es : bmS A h d k s = (s.1 + 1, if s.1 = 0 then k else s.2) := if_pos ⟨q, q2⟩
          rw [es]
          by_cases c0 : s.1 = 0
          · rw [if_pos c0]
            simp (maxDischargeDepth := 12) -implicitDefEqProofs [vb_X11_blame_0, vb_X11_blame_16, vb_X11_blame_19, vb_X11_blame_37, vb_X11_blame_97, vb_X11_blame_99, vb_X11_blame_104, vb_X11_blame_110, vb_X11_blame_119, vb_X11_blame_121, xI_0, xI_1, xI_3, xI_6, xI_7, xI_8, xI_36, xI_37, xI_38, xI_44, xI_46, xI_49, xI_53, xI_60, xI_61, xI_62, xw_X11_blame_0, xw_X11_blame_16, xw_X11_blame_19, xw_X11_blame_37, xw_X11_blame_97, xw_X11_blame_99, xw_X11_blame_104, xw_X11_blame_110, xw_X11_blame_119, xw_X11_blame_121, zw_lit, xB_c, xB_s, xB_n, i1_c, j2_c, k1_c, jJ_e, xlg, xls, xla, xpd, ppush, zw_m1, zw_m2, zw_m3, gf_1_3, gf_1_4, gf_5_1, gf_11_0, tg_11_0, tg_1_3, tg_1_4, tg_5_1, gv_1_3, gv_1_4, gv_0_0, xD1, xD2, xD3, xD4, xD5, xD6, xb1_0, c0, z1] at g
            obtain ⟨m, hm, g⟩ := g
            exact ih m hm (k + 1) (s.1 + 1, k) (by omega) (by omega) (by show 0 ≤ s.1 + 1; omega) (by show s.1 + 1 ≤ k + 1; omega) (by rw [c0]; exact g)
          · rw [if_neg c0]
            simp (maxDischargeDepth := 12) -implicitDefEqProofs [vb_X11_blame_0, vb_X11_blame_16, vb_X11_blame_19, vb_X11_blame_37, vb_X11_blame_97, vb_X11_blame_99, vb_X11_blame_104, vb_X11_blame_110, vb_X11_blame_119, vb_X11_blame_121, xI_0, xI_1, xI_3, xI_6, xI_7, xI_8, xI_36, xI_37, xI_38, xI_44, xI_46, xI_49, xI_53, xI_60, xI_61, xI_62, xw_X11_blame_0, xw_X11_blame_16, xw_X11_blame_19, xw_X11_blame_37, xw_X11_blame_97, xw_X11_blame_99, xw_X11_blame_104, xw_X11_blame_110, xw_X11_blame_119, xw_X11_blame_121, zw_lit, xB_c, xB_s, xB_n, i1_c, j2_c, k1_c, jJ_e, xlg, xls, xla, xpd, ppush, zw_m1, zw_m2, zw_m3, gf_1_3, gf_1_4, gf_5_1, gf_11_0, tg_11_0, tg_1_3, tg_1_4, tg_5_1, gv_1_3, gv_1_4, gv_0_0, xD1, xD2, xD3, xD4, xD5, xD6, xb1_0, c0, z1, zm] at g
            obtain ⟨m, hm, g⟩ := g
            exact ih m hm (k + 1) (s.1 + 1, s.2) (by omega) (by omega) (by show 0 ≤ s.1 + 1; omega) (by show s.1 + 1 ≤ k + 1; omega) g
        · have b1 : xb1 (1 ≤ (if A (404 + 12 * k) = 0 then A (404 + 12 * k + 2) - d else A (404 + 12 * k + 2) + d) ∧ (if A (404 + 12 * k) = 0 then A (404 + 12 * k + 2) - d else A (404 + 12 * k + 2) + d) ≤ 999) = 0 := if_neg q2
          rw [b1] at g
          have es : bmS A h d k s = s := if_neg (fun w => q2 w.2)
          rw [es]
          simp (maxDischargeDepth := 12) -implicitDefEqProofs [vb_X11_blame_0, vb_X11_blame_16, vb_X11_blame_19, vb_X11_blame_37, vb_X11_blame_97, vb_X11_blame_99, vb_X11_blame_104, vb_X11_blame_110, vb_X11_blame_119, vb_X11_blame_121, xI_0, xI_1, xI_3, xI_6, xI_7, xI_8, xI_36, xI_37, xI_38, xI_44, xI_46, xI_49, xI_53, xI_60, xI_61, xI_62, xw_X11_blame_0, xw_X11_blame_16, xw_X11_blame_19, xw_X11_blame_37, xw_X11_blame_97, xw_X11_blame_99, xw_X11_blame_104, xw_X11_blame_110, xw_X11_blame_119, xw_X11_blame_121, zw_lit, xB_c, xB_s, xB_n, i1_c, j2_c, k1_c, jJ_e, xlg, xls, xla, xpd, ppush, zw_m1, zw_m2, zw_m3, gf_1_3, gf_1_4, gf_5_1, gf_11_0, tg_11_0, tg_1_3, tg_1_4, tg_5_1, gv_1_3, gv_1_4, gv_0_0, xD1, xD2, xD3, xD4, xD5, xD6, xb1_0, z1] at g
          obtain ⟨m, hm, g⟩ := g
          exact ih m hm (k + 1) s (by omega) (by omega) m0 (by omega) g
      · have es : bmS A h d k s = s := if_neg (fun w => q w.1)
        rw [es]
        have hh := xw_top (hd := [37]) 12 xD6_ok xc_X11_blame xa_X11_blame (t := 37) rfl hh
        simp (maxDischargeDepth := 12) -implicitDefEqProofs [vb_X11_blame_0, vb_X11_blame_16, vb_X11_blame_19, vb_X11_blame_37, vb_X11_blame_97, vb_X11_blame_99, vb_X11_blame_104, vb_X11_blame_110, vb_X11_blame_119, vb_X11_blame_121, xI_0, xI_1, xI_3, xI_6, xI_7, xI_8, xI_36, xI_37, xI_38, xI_44, xI_46, xI_49, xI_53, xI_60, xI_61, xI_62, xw_X11_blame_0, xw_X11_blame_16, xw_X11_blame_19, xw_X11_blame_37, xw_X11_blame_97, xw_X11_blame_99, xw_X11_blame_104, xw_X11_blame_110, xw_X11_blame_119, xw_X11_blame_121, zw_lit, xB_c, xB_s, xB_n, i1_c, j2_c, k1_c, jJ_e, xlg, xls, xla, xpd, ppush, zw_m1, zw_m2, zw_m3, gf_1_3, gf_1_4, gf_5_1, gf_11_0, tg_11_0, tg_1_3, tg_1_4, tg_5_1, gv_1_3, gv_1_4, gv_0_0, xD1, xD2, xD3, xD4, xD5, xD6, xb1_0, e4, c, c', hd, gv47, g1, ← l1, q, z1] at hh
        obtain ⟨m, hm, hh⟩ := hh
        exact ih m hm (k + 1) s (by omega) (by omega) m0 (by omega) hh
    · have c' : A 2 ≤ k := by omega
      rw [show (A 2 - k).toNat = 0 by omega]
      by_cases w0 : w = 0
      · have hh := xw_top (hd := [37]) 12 xD6_ok xc_X11_blame xa_X11_blame (t := 37) rfl hh
        simp (maxDischargeDepth := 12) -implicitDefEqProofs [vb_X11_blame_0, vb_X11_blame_16, vb_X11_blame_19, vb_X11_blame_37, vb_X11_blame_97, vb_X11_blame_99, vb_X11_blame_104, vb_X11_blame_110, vb_X11_blame_119, vb_X11_blame_121, xI_0, xI_1, xI_3, xI_6, xI_7, xI_8, xI_36, xI_37, xI_38, xI_44, xI_46, xI_49, xI_53, xI_60, xI_61, xI_62, xw_X11_blame_0, xw_X11_blame_16, xw_X11_blame_19, xw_X11_blame_37, xw_X11_blame_97, xw_X11_blame_99, xw_X11_blame_104, xw_X11_blame_110, xw_X11_blame_119, xw_X11_blame_121, zw_lit, xB_c, xB_s, xB_n, i1_c, j2_c, k1_c, jJ_e, xlg, xls, xla, xpd, ppush, zw_m1, zw_m2, zw_m3, gf_1_3, gf_1_4, gf_5_1, gf_11_0, tg_11_0, tg_1_3, tg_1_4, tg_5_1, gv_1_3, gv_1_4, gv_0_0, xD1, xD2, xD3, xD4, xD5, xD6, xb1_0, e4, c, c', w0] at hh
        rw [if_pos w0]
        exact hh
      · have hh := xw_top (hd := [37]) 12 xD6_ok xc_X11_blame xa_X11_blame (t := 37) rfl hh
        simp (maxDischargeDepth := 12) -implicitDefEqProofs [vb_X11_blame_0, vb_X11_blame_16, vb_X11_blame_19, vb_X11_blame_37, vb_X11_blame_97, vb_X11_blame_99, vb_X11_blame_104, vb_X11_blame_110, vb_X11_blame_119, vb_X11_blame_121, xI_0, xI_1, xI_3, xI_6, xI_7, xI_8, xI_36, xI_37, xI_38, xI_44, xI_46, xI_49, xI_53, xI_60, xI_61, xI_62, xw_X11_blame_0, xw_X11_blame_16, xw_X11_blame_19, xw_X11_blame_37, xw_X11_blame_97, xw_X11_blame_99, xw_X11_blame_104, xw_X11_blame_110, xw_X11_blame_119, xw_X11_blame_121, zw_lit, xB_c, xB_s, xB_n, i1_c, j2_c, k1_c, jJ_e, xlg, xls, xla, xpd, ppush, zw_m1, zw_m2, zw_m3, gf_1_3, gf_1_4, gf_5_1, gf_11_0, tg_11_0, tg_1_3, tg_1_4, tg_5_1, gv_1_3, gv_1_4, gv_0_0, xD1, xD2, xD3, xD4, xD5, xD6, xb1_0, e4, c, c', w0] at hh
        rw [if_neg w0]
        exact hh
set_option maxRecDepth 100000 in
theorem sp_c_blame (u w : Int) (S : Int → Int → Int) (n : Int) (H : PH) (hR : RC H S n) (hM : MCC (S 0) H) : SPEC 131 [(2, 0), (0, u), (0, w)] H (fun r H' => r = some (0, bmQ (S 0) u w) ∧ CQ H H' S n) := by
  intro E n' res h
  obtain ⟨e0, e2, z0, z2, a0, a2⟩ := RC_12 hR
  have ok0 := RC_sz hR
  by_cases qu : 0 ≤ u ∧ u ≤ 4
  · have u0 := qu.1
    have u1 := qu.2
    have u2 : ¬ u < 0 := by omega
    have u3 : ¬ 4 < u := by omega
    by_cases qw : 0 ≤ w ∧ w ≤ 1
    · have w0 := qw.1
      have w1 := qw.2
      have w2 : ¬ w < 0 := by omega
      have w3 : ¬ 1 < w := by omega
      have hq : (0 ≤ u ∧ u ≤ 4) ∧ (0 ≤ w ∧ w ≤ 1) := by omega
      have b0 := blQ_in (S 0) u 0 a2
      have b1 := blQ_in (S 0) u 1 a2
      have h := call_runP 7 vm_X11_blame h
      have h := xw_top (hd := [37]) 12 xD6_ok xc_X11_blame xa_X11_blame (t := 0) rfl h
      simp (maxDischargeDepth := 12) -implicitDefEqProofs [vb_X11_blame_0, vb_X11_blame_16, vb_X11_blame_19, vb_X11_blame_37, vb_X11_blame_97, vb_X11_blame_99, vb_X11_blame_104, vb_X11_blame_110, vb_X11_blame_119, vb_X11_blame_121, xI_0, xI_1, xI_3, xI_6, xI_7, xI_8, xI_36, xI_37, xI_38, xI_44, xI_46, xI_49, xI_53, xI_60, xI_61, xI_62, xw_X11_blame_0, xw_X11_blame_16, xw_X11_blame_19, xw_X11_blame_37, xw_X11_blame_97, xw_X11_blame_99, xw_X11_blame_104, xw_X11_blame_110, xw_X11_blame_119, xw_X11_blame_121, zw_lit, xB_c, xB_s, xB_n, i1_c, j2_c, k1_c, jJ_e, xlg, xls, xla, xpd, ppush, zw_m1, zw_m2, zw_m3, gf_1_3, gf_1_4, gf_5_1, gf_11_0, tg_11_0, tg_1_3, tg_1_4, tg_5_1, gv_1_3, gv_1_4, gv_0_0, xD1, xD2, xD3, xD4, xD5, xD6, xb1_0, u0, u1, u2, u3, w0, w1, w2, w3] at h
      obtain ⟨r, H1, ⟨rfl, rfl⟩, g⟩ := xc_use h (sp_X1_surplusIn u (S 0) _ ok0.1 ok0.2.2.2 hR.1)
      simp (maxDischargeDepth := 12) -implicitDefEqProofs [vb_X11_blame_0, vb_X11_blame_16, vb_X11_blame_19, vb_X11_blame_37, vb_X11_blame_97, vb_X11_blame_99, vb_X11_blame_104, vb_X11_blame_110, vb_X11_blame_119, vb_X11_blame_121, xI_0, xI_1, xI_3, xI_6, xI_7, xI_8, xI_36, xI_37, xI_38, xI_44, xI_46, xI_49, xI_53, xI_60, xI_61, xI_62, xw_X11_blame_0, xw_X11_blame_16, xw_X11_blame_19, xw_X11_blame_37, xw_X11_blame_97, xw_X11_blame_99, xw_X11_blame_104, xw_X11_blame_110, xw_X11_blame_119, xw_X11_blame_121, zw_lit, xB_c, xB_s, xB_n, i1_c, j2_c, k1_c, jJ_e, xlg, xls, xla, xpd, ppush, zw_m1, zw_m2, zw_m3, gf_1_3, gf_1_4, gf_5_1, gf_11_0, tg_11_0, tg_1_3, tg_1_4, tg_5_1, gv_1_3, gv_1_4, gv_0_0, xD1, xD2, xD3, xD4, xD5, xD6, xb1_0] at g
      obtain ⟨m, hm, g⟩ := g
      by_cases d0 : blQ (S 0) u 0 - blQ (S 0) u 1 = 0
      · have ez : bmZ (S 0) u = (0, -1) := if_pos d0
        rw [d0] at g
        have c1 : S 0 2 ≤ 0 ∨ ¬ S 0 2 ≤ 0 := by omega
        by_cases c : w = 0
        · have v : bmQ (S 0) u w = 0 := by unfold bmQ; rw [if_pos hq, if_pos c, ez]
          rw [v]
          rcases c1 with c1 | c1
          · have c1n : ¬ 0 < S 0 2 := by omega
            have g := xw_top (hd := [37]) 12 xD6_ok xc_X11_blame xa_X11_blame (t := 37) rfl g
            simp (maxDischargeDepth := 12) -implicitDefEqProofs [vb_X11_blame_0, vb_X11_blame_16, vb_X11_blame_19, vb_X11_blame_37, vb_X11_blame_97, vb_X11_blame_99, vb_X11_blame_104, vb_X11_blame_110, vb_X11_blame_119, vb_X11_blame_121, xI_0, xI_1, xI_3, xI_6, xI_7, xI_8, xI_36, xI_37, xI_38, xI_44, xI_46, xI_49, xI_53, xI_60, xI_61, xI_62, xw_X11_blame_0, xw_X11_blame_16, xw_X11_blame_19, xw_X11_blame_37, xw_X11_blame_97, xw_X11_blame_99, xw_X11_blame_104, xw_X11_blame_110, xw_X11_blame_119, xw_X11_blame_121, zw_lit, xB_c, xB_s, xB_n, i1_c, j2_c, k1_c, jJ_e, xlg, xls, xla, xpd, ppush, zw_m1, zw_m2, zw_m3, gf_1_3, gf_1_4, gf_5_1, gf_11_0, tg_11_0, tg_1_3, tg_1_4, tg_5_1, gv_1_3, gv_1_4, gv_0_0, xD1, xD2, xD3, xD4, xD5, xD6, xb1_0, ← e2, c1, c, c1n] at g
            exact ⟨_, _, g, rfl, CQ_refl hR hM⟩
          · have c2 : 0 < S 0 2 := by omega
            have g := xw_top (hd := [37]) 12 xD6_ok xc_X11_blame xa_X11_blame (t := 37) rfl g
            simp (maxDischargeDepth := 12) -implicitDefEqProofs [vb_X11_blame_0, vb_X11_blame_16, vb_X11_blame_19, vb_X11_blame_37, vb_X11_blame_97, vb_X11_blame_99, vb_X11_blame_104, vb_X11_blame_110, vb_X11_blame_119, vb_X11_blame_121, xI_0, xI_1, xI_3, xI_6, xI_7, xI_8, xI_36, xI_37, xI_38, xI_44, xI_46, xI_49, xI_53, xI_60, xI_61, xI_62, xw_X11_blame_0, xw_X11_blame_16, xw_X11_blame_19, xw_X11_blame_37, xw_X11_blame_97, xw_X11_blame_99, xw_X11_blame_104, xw_X11_blame_110, xw_X11_blame_119, xw_X11_blame_121, zw_lit, xB_c, xB_s, xB_n, i1_c, j2_c, k1_c, jJ_e, xlg, xls, xla, xpd, ppush, zw_m1, zw_m2, zw_m3, gf_1_3, gf_1_4, gf_5_1, gf_11_0, tg_11_0, tg_1_3, tg_1_4, tg_5_1, gv_1_3, gv_1_4, gv_0_0, xD1, xD2, xD3, xD4, xD5, xD6, xb1_0, ← e2, c1, c2, c] at g
            exact ⟨_, _, g, rfl, CQ_refl hR hM⟩
        · have v : bmQ (S 0) u w = -1 := by unfold bmQ; rw [if_pos hq, if_neg c, ez]
          rw [v]
          rcases c1 with c1 | c1
          · have c1n : ¬ 0 < S 0 2 := by omega
            have g := xw_top (hd := [37]) 12 xD6_ok xc_X11_blame xa_X11_blame (t := 37) rfl g
            simp (maxDischargeDepth := 12) -implicitDefEqProofs [vb_X11_blame_0, vb_X11_blame_16, vb_X11_blame_19, vb_X11_blame_37, vb_X11_blame_97, vb_X11_blame_99, vb_X11_blame_104, vb_X11_blame_110, vb_X11_blame_119, vb_X11_blame_121, xI_0, xI_1, xI_3, xI_6, xI_7, xI_8, xI_36, xI_37, xI_38, xI_44, xI_46, xI_49, xI_53, xI_60, xI_61, xI_62, xw_X11_blame_0, xw_X11_blame_16, xw_X11_blame_19, xw_X11_blame_37, xw_X11_blame_97, xw_X11_blame_99, xw_X11_blame_104, xw_X11_blame_110, xw_X11_blame_119, xw_X11_blame_121, zw_lit, xB_c, xB_s, xB_n, i1_c, j2_c, k1_c, jJ_e, xlg, xls, xla, xpd, ppush, zw_m1, zw_m2, zw_m3, gf_1_3, gf_1_4, gf_5_1, gf_11_0, tg_11_0, tg_1_3, tg_1_4, tg_5_1, gv_1_3, gv_1_4, gv_0_0, xD1, xD2, xD3, xD4, xD5, xD6, xb1_0, ← e2, c1, c, c1n] at g
            exact ⟨_, _, g, rfl, CQ_refl hR hM⟩
          · have c2 : 0 < S 0 2 := by omega
            have g := xw_top (hd := [37]) 12 xD6_ok xc_X11_blame xa_X11_blame (t := 37) rfl g
            simp (maxDischargeDepth := 12) -implicitDefEqProofs [vb_X11_blame_0, vb_X11_blame_16, vb_X11_blame_19, vb_X11_blame_37, vb_X11_blame_97, vb_X11_blame_99, vb_X11_blame_104, vb_X11_blame_110, vb_X11_blame_119, vb_X11_blame_121, xI_0, xI_1, xI_3, xI_6, xI_7, xI_8, xI_36, xI_37, xI_38, xI_44, xI_46, xI_49, xI_53, xI_60, xI_61, xI_62, xw_X11_blame_0, xw_X11_blame_16, xw_X11_blame_19, xw_X11_blame_37, xw_X11_blame_97, xw_X11_blame_99, xw_X11_blame_104, xw_X11_blame_110, xw_X11_blame_119, xw_X11_blame_121, zw_lit, xB_c, xB_s, xB_n, i1_c, j2_c, k1_c, jJ_e, xlg, xls, xla, xpd, ppush, zw_m1, zw_m2, zw_m3, gf_1_3, gf_1_4, gf_5_1, gf_11_0, tg_11_0, tg_1_3, tg_1_4, tg_5_1, gv_1_3, gv_1_4, gv_0_0, xD1, xD2, xD3, xD4, xD5, xD6, xb1_0, ← e2, c1, c2, c] at g
            exact ⟨_, _, g, rfl, CQ_refl hR hM⟩
      · have ez : bmZ (S 0) u = bmF (S 0) u (blQ (S 0) u 0 - blQ (S 0) u 1) (S 0 2).toNat 0 (0, -1) := if_neg d0
        have g := lp_cbm u w _ (S 0) _ ok0.1 ok0.2.2.2 hR.1 d0 (by omega) qw m 0 (0, -1) (by omega) a2.1 (Int.le_refl _) (Int.le_refl _) g
        rw [Int.sub_zero, ← ez] at g
        exact ⟨_, _, g, by unfold bmQ; rw [if_pos hq], CQ_refl hR hM⟩
    · by_cases w0 : 0 ≤ w
      · have w1 : ¬ w ≤ 1 := by omega
        have w2 : ¬ w < 0 := by omega
        have w3 : 1 < w := by omega
        have h := call_runP 7 vm_X11_blame h
        have h := xw_top (hd := [37]) 12 xD6_ok xc_X11_blame xa_X11_blame (t := 0) rfl h
        simp (maxDischargeDepth := 12) -implicitDefEqProofs [vb_X11_blame_0, vb_X11_blame_16, vb_X11_blame_19, vb_X11_blame_37, vb_X11_blame_97, vb_X11_blame_99, vb_X11_blame_104, vb_X11_blame_110, vb_X11_blame_119, vb_X11_blame_121, xI_0, xI_1, xI_3, xI_6, xI_7, xI_8, xI_36, xI_37, xI_38, xI_44, xI_46, xI_49, xI_53, xI_60, xI_61, xI_62, xw_X11_blame_0, xw_X11_blame_16, xw_X11_blame_19, xw_X11_blame_37, xw_X11_blame_97, xw_X11_blame_99, xw_X11_blame_104, xw_X11_blame_110, xw_X11_blame_119, xw_X11_blame_121, zw_lit, xB_c, xB_s, xB_n, i1_c, j2_c, k1_c, jJ_e, xlg, xls, xla, xpd, ppush, zw_m1, zw_m2, zw_m3, gf_1_3, gf_1_4, gf_5_1, gf_11_0, tg_11_0, tg_1_3, tg_1_4, tg_5_1, gv_1_3, gv_1_4, gv_0_0, xD1, xD2, xD3, xD4, xD5, xD6, xb1_0, u0, u1, u2, u3, w0, w1, w2, w3] at h
        exact ⟨_, _, h, by unfold bmQ; rw [if_neg (by omega)], CQ_refl hR hM⟩
      · have w2 : w < 0 := by omega
        have h := call_runP 7 vm_X11_blame h
        have h := xw_top (hd := [37]) 12 xD6_ok xc_X11_blame xa_X11_blame (t := 0) rfl h
        simp (maxDischargeDepth := 12) -implicitDefEqProofs [vb_X11_blame_0, vb_X11_blame_16, vb_X11_blame_19, vb_X11_blame_37, vb_X11_blame_97, vb_X11_blame_99, vb_X11_blame_104, vb_X11_blame_110, vb_X11_blame_119, vb_X11_blame_121, xI_0, xI_1, xI_3, xI_6, xI_7, xI_8, xI_36, xI_37, xI_38, xI_44, xI_46, xI_49, xI_53, xI_60, xI_61, xI_62, xw_X11_blame_0, xw_X11_blame_16, xw_X11_blame_19, xw_X11_blame_37, xw_X11_blame_97, xw_X11_blame_99, xw_X11_blame_104, xw_X11_blame_110, xw_X11_blame_119, xw_X11_blame_121, zw_lit, xB_c, xB_s, xB_n, i1_c, j2_c, k1_c, jJ_e, xlg, xls, xla, xpd, ppush, zw_m1, zw_m2, zw_m3, gf_1_3, gf_1_4, gf_5_1, gf_11_0, tg_11_0, tg_1_3, tg_1_4, tg_5_1, gv_1_3, gv_1_4, gv_0_0, xD1, xD2, xD3, xD4, xD5, xD6, xb1_0, u0, u1, u2, u3, w0, w2] at h
        exact ⟨_, _, h, by unfold bmQ; rw [if_neg (by omega)], CQ_refl hR hM⟩
  · by_cases u0 : 0 ≤ u
    · have u1 : ¬ u ≤ 4 := by omega
      have u2 : ¬ u < 0 := by omega
      have u3 : 4 < u := by omega
      have h := call_runP 7 vm_X11_blame h
      have h := xw_top (hd := [37]) 12 xD6_ok xc_X11_blame xa_X11_blame (t := 0) rfl h
      simp (maxDischargeDepth := 12) -implicitDefEqProofs [vb_X11_blame_0, vb_X11_blame_16, vb_X11_blame_19, vb_X11_blame_37, vb_X11_blame_97, vb_X11_blame_99, vb_X11_blame_104, vb_X11_blame_110, vb_X11_blame_119, vb_X11_blame_121, xI_0, xI_1, xI_3, xI_6, xI_7, xI_8, xI_36, xI_37, xI_38, xI_44, xI_46, xI_49, xI_53, xI_60, xI_61, xI_62, xw_X11_blame_0, xw_X11_blame_16, xw_X11_blame_19, xw_X11_blame_37, xw_X11_blame_97, xw_X11_blame_99, xw_X11_blame_104, xw_X11_blame_110, xw_X11_blame_119, xw_X11_blame_121, zw_lit, xB_c, xB_s, xB_n, i1_c, j2_c, k1_c, jJ_e, xlg, xls, xla, xpd, ppush, zw_m1, zw_m2, zw_m3, gf_1_3, gf_1_4, gf_5_1, gf_11_0, tg_11_0, tg_1_3, tg_1_4, tg_5_1, gv_1_3, gv_1_4, gv_0_0, xD1, xD2, xD3, xD4, xD5, xD6, xb1_0, u0, u1, u2, u3] at h
      exact ⟨_, _, h, by unfold bmQ; rw [if_neg (by omega)], CQ_refl hR hM⟩
    · have u2 : u < 0 := by omega
      have h := call_runP 7 vm_X11_blame h
      have h := xw_top (hd := [37]) 12 xD6_ok xc_X11_blame xa_X11_blame (t := 0) rfl h
      simp (maxDischargeDepth := 12) -implicitDefEqProofs [vb_X11_blame_0, vb_X11_blame_16, vb_X11_blame_19, vb_X11_blame_37, vb_X11_blame_97, vb_X11_blame_99, vb_X11_blame_104, vb_X11_blame_110, vb_X11_blame_119, vb_X11_blame_121, xI_0, xI_1, xI_3, xI_6, xI_7, xI_8, xI_36, xI_37, xI_38, xI_44, xI_46, xI_49, xI_53, xI_60, xI_61, xI_62, xw_X11_blame_0, xw_X11_blame_16, xw_X11_blame_19, xw_X11_blame_37, xw_X11_blame_97, xw_X11_blame_99, xw_X11_blame_104, xw_X11_blame_110, xw_X11_blame_119, xw_X11_blame_121, zw_lit, xB_c, xB_s, xB_n, i1_c, j2_c, k1_c, jJ_e, xlg, xls, xla, xpd, ppush, zw_m1, zw_m2, zw_m3, gf_1_3, gf_1_4, gf_5_1, gf_11_0, tg_11_0, tg_1_3, tg_1_4, tg_5_1, gv_1_3, gv_1_4, gv_0_0, xD1, xD2, xD3, xD4, xD5, xD6, xb1_0, u0, u2] at h
      exact ⟨_, _, h, by unfold bmQ; rw [if_neg (by omega)], CQ_refl hR hM⟩
set_option maxRecDepth 100000 in
theorem lp_mbm (h w d : Int) (A : Int → Int) (H : PH) (hA : H 591 = A) (hB : MB A) (hX : OKX A) (hd : ¬ d = 0) (hd2 : -60000 ≤ d ∧ d ≤ 60000) (hw : 0 ≤ w ∧ w ≤ 1) {E : xE} {res : xR} : ∀ (n : Nat) (k y : Int) (s : Int × Int), 0 ≤ k → k ≤ A 2 → 0 ≤ s.1 → s.1 ≤ k → RUN E res n kd_X12_blame (zget kd_X12_blame 34) 34 [590, h, w, d, s.1, s.2, k, y] [] H → REPR E res (some (0, if w = 0 then (bmF A h d (A 2 - k).toNat k s).1 else (bmF A h d (A 2 - k).toNat k s).2)) H := by
  intro n
  induction n using Nat.strongRecOn with
  | _ n ih =>
    intro k y s k0 k1 m0 m1 hh
    have a2 := hB.2.2.1
    have zk1 : zw (12 * k) = 12 * k := zw_lit (by omega) (by omega)
    have zk2 : zw (404 + 12 * k) = 404 + 12 * k := zw_lit (by omega) (by omega)
    have zk3 : zw (404 + 12 * k + 1) = 404 + 12 * k + 1 := zw_lit (by omega) (by omega)
    have zk0 : zw (404 + 12 * k + 0) = 404 + 12 * k := by rw [Int.add_zero]; exact zk2
    have zk4 : zw (k + 1) = k + 1 := zw_lit (by omega) (by omega)
    have zk5 : zw (404 + 12 * k + 2) = 404 + 12 * k + 2 := zw_lit (by omega) (by omega)
    have zm : zw (s.1 + 1) = s.1 + 1 := zw_lit (by omega) (by omega)
    by_cases c : k < A 2
    · have c' : ¬ A 2 ≤ k := by omega
      have ox := (hX.2 k k0 c).2.2
      have za : zw (A (404 + 12 * k + 2) - d) = A (404 + 12 * k + 2) - d := zw_lit (by omega) (by omega)
      have zb : zw (A (404 + 12 * k + 2) + d) = A (404 + 12 * k + 2) + d := zw_lit (by omega) (by omega)
      have st : (A 2 - k).toNat = (A 2 - (k + 1)).toNat + 1 := by omega
      rw [st]
      unfold bmF
      by_cases q : A (404 + 12 * k + 1) = h
      · by_cases q2 : A (404 + 12 * k) = 0
        · have ev : bmV A d k = A (404 + 12 * k + 2) - d := if_pos q2
          by_cases cc : 1 ≤ A (404 + 12 * k + 2) - d ∧ A (404 + 12 * k + 2) - d ≤ 999
          · have v0 := cc.1
            have v1 := cc.2
            have v2 : ¬ A (404 + 12 * k + 2) - d < 1 := by omega
            have v3 : ¬ 999 < A (404 + 12 * k + 2) - d := by omega
            have es : bmS A h d k s = (s.1 + 1, if s.1 = 0 then k else s.2) := if_pos ⟨q, by rw [ev]; exact cc⟩
            rw [es]
            by_cases c0 : s.1 = 0
            · rw [if_pos c0]
              have hh := xw_top (hd := [34]) 16 xD6_ok xc_X12_blame xa_X12_blame (t := 34) rfl hh
              simp (maxDischargeDepth := 12) -implicitDefEqProofs [vb_X12_blame_0, vb_X12_blame_16, vb_X12_blame_19, vb_X12_blame_34, vb_X12_blame_68, vb_X12_blame_94, vb_X12_blame_102, vb_X12_blame_119, vb_X12_blame_133, vb_X12_blame_135, vb_X12_blame_137, vb_X12_blame_143, vb_X12_blame_152, vb_X12_blame_154, xI_0, xI_1, xI_3, xI_6, xI_7, xI_8, xI_9, xI_14, xI_15, xI_36, xI_37, xI_38, xI_43, xI_44, xI_46, xI_49, xI_51, xI_60, xI_61, xI_62, xw_X12_blame_0, xw_X12_blame_16, xw_X12_blame_19, xw_X12_blame_34, xw_X12_blame_68, xw_X12_blame_94, xw_X12_blame_102, xw_X12_blame_119, xw_X12_blame_133, xw_X12_blame_135, xw_X12_blame_137, xw_X12_blame_143, xw_X12_blame_152, xw_X12_blame_154, zw_lit, xB_c, xB_s, xB_n, i1_c, j2_c, k1_c, jJ_e, xlg, xls, xla, xpd, ppush, zw_m1, zw_m2, zw_m3, gf_12_0, tg_12_0, gv_590_0, xD1, xD2, xD3, xD4, xD5, xD6, xb1_0, hA, c, c', hd, zk1, zk2, zk3, zk0, zk4, zk5, q, q2, za, v0, v1, v2, v3, c0] at hh
              obtain ⟨m, hm, hh⟩ := hh
              exact ih m hm (k + 1) _ (s.1 + 1, k) (by omega) (by omega) (by show 0 ≤ s.1 + 1; omega) (by show s.1 + 1 ≤ k + 1; omega) (by rw [c0]; exact hh)
            · have c1 : ¬ s.1 + 1 = 1 := by omega
              rw [if_neg c0]
              have hh := xw_top (hd := [34]) 16 xD6_ok xc_X12_blame xa_X12_blame (t := 34) rfl hh
              simp (maxDischargeDepth := 12) -implicitDefEqProofs [vb_X12_blame_0, vb_X12_blame_16, vb_X12_blame_19, vb_X12_blame_34, vb_X12_blame_68, vb_X12_blame_94, vb_X12_blame_102, vb_X12_blame_119, vb_X12_blame_133, vb_X12_blame_135, vb_X12_blame_137, vb_X12_blame_143, vb_X12_blame_152, vb_X12_blame_154, xI_0, xI_1, xI_3, xI_6, xI_7, xI_8, xI_9, xI_14, xI_15, xI_36, xI_37, xI_38, xI_43, xI_44, xI_46, xI_49, xI_51, xI_60, xI_61, xI_62, xw_X12_blame_0, xw_X12_blame_16, xw_X12_blame_19, xw_X12_blame_34, xw_X12_blame_68, xw_X12_blame_94, xw_X12_blame_102, xw_X12_blame_119, xw_X12_blame_133, xw_X12_blame_135, xw_X12_blame_137, xw_X12_blame_143, xw_X12_blame_152, xw_X12_blame_154, zw_lit, xB_c, xB_s, xB_n, i1_c, j2_c, k1_c, jJ_e, xlg, xls, xla, xpd, ppush, zw_m1, zw_m2, zw_m3, gf_12_0, tg_12_0, gv_590_0, xD1, xD2, xD3, xD4, xD5, xD6, xb1_0, hA, c, c', hd, zk1, zk2, zk3, zk0, zk4, zk5, q, q2, za, v0, v1, v2, v3, zm, c1, c0] at hh
              obtain ⟨m, hm, hh⟩ := hh
              exact ih m hm (k + 1) _ (s.1 + 1, s.2) (by omega) (by omega) (by show 0 ≤ s.1 + 1; omega) (by show s.1 + 1 ≤ k + 1; omega) hh
          · have es : bmS A h d k s = s := if_neg (fun w => cc (by rw [← ev]; exact w.2))
            rw [es]
            by_cases v0 : 1 ≤ A (404 + 12 * k + 2) - d
            · have v1 : ¬ A (404 + 12 * k + 2) - d ≤ 999 := by omega
              have v3 : 999 < A (404 + 12 * k + 2) - d := by omega
              have hh := xw_top (hd := [34]) 16 xD6_ok xc_X12_blame xa_X12_blame (t := 34) rfl hh
              simp (maxDischargeDepth := 12) -implicitDefEqProofs [vb_X12_blame_0, vb_X12_blame_16, vb_X12_blame_19, vb_X12_blame_34, vb_X12_blame_68, vb_X12_blame_94, vb_X12_blame_102, vb_X12_blame_119, vb_X12_blame_133, vb_X12_blame_135, vb_X12_blame_137, vb_X12_blame_143, vb_X12_blame_152, vb_X12_blame_154, xI_0, xI_1, xI_3, xI_6, xI_7, xI_8, xI_9, xI_14, xI_15, xI_36, xI_37, xI_38, xI_43, xI_44, xI_46, xI_49, xI_51, xI_60, xI_61, xI_62, xw_X12_blame_0, xw_X12_blame_16, xw_X12_blame_19, xw_X12_blame_34, xw_X12_blame_68, xw_X12_blame_94, xw_X12_blame_102, xw_X12_blame_119, xw_X12_blame_133, xw_X12_blame_135, xw_X12_blame_137, xw_X12_blame_143, xw_X12_blame_152, xw_X12_blame_154, zw_lit, xB_c, xB_s, xB_n, i1_c, j2_c, k1_c, jJ_e, xlg, xls, xla, xpd, ppush, zw_m1, zw_m2, zw_m3, gf_12_0, tg_12_0, gv_590_0, xD1, xD2, xD3, xD4, xD5, xD6, xb1_0, hA, c, c', hd, zk1, zk2, zk3, zk0, zk4, zk5, q, q2, za, v0, v1, v3] at hh
              obtain ⟨m, hm, hh⟩ := hh
              exact ih m hm (k + 1) _ s (by omega) (by omega) m0 (by omega) hh
            · have v2 : A (404 + 12 * k + 2) - d < 1 := by omega
              have hh := xw_top (hd := [34]) 16 xD6_ok xc_X12_blame xa_X12_blame (t := 34) rfl hh
              simp (maxDischargeDepth := 12) -implicitDefEqProofs [vb_X12_blame_0, vb_X12_blame_16, vb_X12_blame_19, vb_X12_blame_34, vb_X12_blame_68, vb_X12_blame_94, vb_X12_blame_102, vb_X12_blame_119, vb_X12_blame_133, vb_X12_blame_135, vb_X12_blame_137, vb_X12_blame_143, vb_X12_blame_152, vb_X12_blame_154, xI_0, xI_1, xI_3, xI_6, xI_7, xI_8, xI_9, xI_14, xI_15, xI_36, xI_37, xI_38, xI_43, xI_44, xI_46, xI_49, xI_51, xI_60, xI_61, xI_62, xw_X12_blame_0, xw_X12_blame_16, xw_X12_blame_19, xw_X12_blame_34, xw_X12_blame_68, xw_X12_blame_94, xw_X12_blame_102, xw_X12_blame_119, xw_X12_blame_133, xw_X12_blame_135, xw_X12_blame_137, xw_X12_blame_143, xw_X12_blame_152, xw_X12_blame_154, zw_lit, xB_c, xB_s, xB_n, i1_c, j2_c, k1_c, jJ_e, xlg, xls, xla, xpd, ppush, zw_m1, zw_m2, zw_m3, gf_12_0, tg_12_0, gv_590_0, xD1, xD2, xD3, xD4, xD5, xD6, xb1_0, hA, c, c', hd, zk1, zk2, zk3, zk0, zk4, zk5, q, q2, za, v0, v2] at hh
              obtain ⟨m, hm, hh⟩ := hh
              exact ih m hm (k + 1) _ s (by omega) (by omega) m0 (by omega) hh
        · have ev : bmV A d k = A (404 + 12 * k + 2) + d := if_neg q2
          by_cases cc : 1 ≤ A (404 + 12 * k + 2) + d ∧ A (404 + 12 * k + 2) + d ≤ 999
          · have v0 := cc.1
            have v1 := cc.2
            have v2 : ¬ A (404 + 12 * k + 2) + d < 1 := by omega
            have v3 : ¬ 999 < A (404 + 12 * k + 2) + d := by omega
            have es : bmS A h d k s = (s.1 + 1, if s.1 = 0 then k else s.2) := if_pos ⟨q, by rw [ev]; exact cc⟩
            rw [es]
            by_cases c0 : s.1 = 0
            · rw [if_pos c0]
              have hh := xw_top (hd := [34]) 16 xD6_ok xc_X12_blame xa_X12_blame (t := 34) rfl hh
              simp (maxDischargeDepth := 12) -implicitDefEqProofs [vb_X12_blame_0, vb_X12_blame_16, vb_X12_blame_19, vb_X12_blame_34, vb_X12_blame_68, vb_X12_blame_94, vb_X12_blame_102, vb_X12_blame_119, vb_X12_blame_133, vb_X12_blame_135, vb_X12_blame_137, vb_X12_blame_143, vb_X12_blame_152, vb_X12_blame_154, xI_0, xI_1, xI_3, xI_6, xI_7, xI_8, xI_9, xI_14, xI_15, xI_36, xI_37, xI_38, xI_43, xI_44, xI_46, xI_49, xI_51, xI_60, xI_61, xI_62, xw_X12_blame_0, xw_X12_blame_16, xw_X12_blame_19, xw_X12_blame_34, xw_X12_blame_68, xw_X12_blame_94, xw_X12_blame_102, xw_X12_blame_119, xw_X12_blame_133, xw_X12_blame_135, xw_X12_blame_137, xw_X12_blame_143, xw_X12_blame_152, xw_X12_blame_154, zw_lit, xB_c, xB_s, xB_n, i1_c, j2_c, k1_c, jJ_e, xlg, xls, xla, xpd, ppush, zw_m1, zw_m2, zw_m3, gf_12_0, tg_12_0, gv_590_0, xD1, xD2, xD3, xD4, xD5, xD6, xb1_0, hA, c, c', hd, zk1, zk2, zk3, zk0, zk4, zk5, q, q2, zb, v0, v1, v2, v3, c0] at hh
              obtain ⟨m, hm, hh⟩ := hh
              exact ih m hm (k + 1) _ (s.1 + 1, k) (by omega) (by omega) (by show 0 ≤ s.1 + 1; omega) (by show s.1 + 1 ≤ k + 1; omega) (by rw [c0]; exact hh)
            · have c1 : ¬ s.1 + 1 = 1 := by omega
              rw [if_neg c0]
              have hh := xw_top (hd := [34]) 16 xD6_ok xc_X12_blame xa_X12_blame (t := 34) rfl hh
              simp (maxDischargeDepth := 12) -implicitDefEqProofs [vb_X12_blame_0, vb_X12_blame_16, vb_X12_blame_19, vb_X12_blame_34, vb_X12_blame_68, vb_X12_blame_94, vb_X12_blame_102, vb_X12_blame_119, vb_X12_blame_133, vb_X12_blame_135, vb_X12_blame_137, vb_X12_blame_143, vb_X12_blame_152, vb_X12_blame_154, xI_0, xI_1, xI_3, xI_6, xI_7, xI_8, xI_9, xI_14, xI_15, xI_36, xI_37, xI_38, xI_43, xI_44, xI_46, xI_49, xI_51, xI_60, xI_61, xI_62, xw_X12_blame_0, xw_X12_blame_16, xw_X12_blame_19, xw_X12_blame_34, xw_X12_blame_68, xw_X12_blame_94, xw_X12_blame_102, xw_X12_blame_119, xw_X12_blame_133, xw_X12_blame_135, xw_X12_blame_137, xw_X12_blame_143, xw_X12_blame_152, xw_X12_blame_154, zw_lit, xB_c, xB_s, xB_n, i1_c, j2_c, k1_c, jJ_e, xlg, xls, xla, xpd, ppush, zw_m1, zw_m2, zw_m3, gf_12_0, tg_12_0, gv_590_0, xD1, xD2, xD3, xD4, xD5, xD6, xb1_0, hA, c, c', hd, zk1, zk2, zk3, zk0, zk4, zk5, q, q2, zb, v0, v1, v2, v3, zm, c1, c0] at hh
              obtain ⟨m, hm, hh⟩ := hh
              exact ih m hm (k + 1) _ (s.1 + 1, s.2) (by omega) (by omega) (by show 0 ≤ s.1 + 1; omega) (by show s.1 + 1 ≤ k + 1; omega) hh
          · have es : bmS A h d k s = s := if_neg (fun w => cc (by rw [← ev]; exact w.2))
            rw [es]
            by_cases v0 : 1 ≤ A (404 + 12 * k + 2) + d
            · have v1 : ¬ A (404 + 12 * k + 2) + d ≤ 999 := by omega
              have v3 : 999 < A (404 + 12 * k + 2) + d := by omega
              have hh := xw_top (hd := [34]) 16 xD6_ok xc_X12_blame xa_X12_blame (t := 34) rfl hh
              simp (maxDischargeDepth := 12) -implicitDefEqProofs [vb_X12_blame_0, vb_X12_blame_16, vb_X12_blame_19, vb_X12_blame_34, vb_X12_blame_68, vb_X12_blame_94, vb_X12_blame_102, vb_X12_blame_119, vb_X12_blame_133, vb_X12_blame_135, vb_X12_blame_137, vb_X12_blame_143, vb_X12_blame_152, vb_X12_blame_154, xI_0, xI_1, xI_3, xI_6, xI_7, xI_8, xI_9, xI_14, xI_15, xI_36, xI_37, xI_38, xI_43, xI_44, xI_46, xI_49, xI_51, xI_60, xI_61, xI_62, xw_X12_blame_0, xw_X12_blame_16, xw_X12_blame_19, xw_X12_blame_34, xw_X12_blame_68, xw_X12_blame_94, xw_X12_blame_102, xw_X12_blame_119, xw_X12_blame_133, xw_X12_blame_135, xw_X12_blame_137, xw_X12_blame_143, xw_X12_blame_152, xw_X12_blame_154, zw_lit, xB_c, xB_s, xB_n, i1_c, j2_c, k1_c, jJ_e, xlg, xls, xla, xpd, ppush, zw_m1, zw_m2, zw_m3, gf_12_0, tg_12_0, gv_590_0, xD1, xD2, xD3, xD4, xD5, xD6, xb1_0, hA, c, c', hd, zk1, zk2, zk3, zk0, zk4, zk5, q, q2, zb, v0, v1, v3] at hh
              obtain ⟨m, hm, hh⟩ := hh
              exact ih m hm (k + 1) _ s (by omega) (by omega) m0 (by omega) hh
            · have v2 : A (404 + 12 * k + 2) + d < 1 := by omega
              have hh := xw_top (hd := [34]) 16 xD6_ok xc_X12_blame xa_X12_blame (t := 34) rfl hh
              simp (maxDischargeDepth := 12) -implicitDefEqProofs [vb_X12_blame_0, vb_X12_blame_16, vb_X12_blame_19, vb_X12_blame_34, vb_X12_blame_68, vb_X12_blame_94, vb_X12_blame_102, vb_X12_blame_119, vb_X12_blame_133, vb_X12_blame_135, vb_X12_blame_137, vb_X12_blame_143, vb_X12_blame_152, vb_X12_blame_154, xI_0, xI_1, xI_3, xI_6, xI_7, xI_8, xI_9, xI_14, xI_15, xI_36, xI_37, xI_38, xI_43, xI_44, xI_46, xI_49, xI_51, xI_60, xI_61, xI_62, xw_X12_blame_0, xw_X12_blame_16, xw_X12_blame_19, xw_X12_blame_34, xw_X12_blame_68, xw_X12_blame_94, xw_X12_blame_102, xw_X12_blame_119, xw_X12_blame_133, xw_X12_blame_135, xw_X12_blame_137, xw_X12_blame_143, xw_X12_blame_152, xw_X12_blame_154, zw_lit, xB_c, xB_s, xB_n, i1_c, j2_c, k1_c, jJ_e, xlg, xls, xla, xpd, ppush, zw_m1, zw_m2, zw_m3, gf_12_0, tg_12_0, gv_590_0, xD1, xD2, xD3, xD4, xD5, xD6, xb1_0, hA, c, c', hd, zk1, zk2, zk3, zk0, zk4, zk5, q, q2, zb, v0, v2] at hh
              obtain ⟨m, hm, hh⟩ := hh
              exact ih m hm (k + 1) _ s (by omega) (by omega) m0 (by omega) hh
      · have es : bmS A h d k s = s := if_neg (fun w => q w.1)
        rw [es]
        have hh := xw_top (hd := [34]) 16 xD6_ok xc_X12_blame xa_X12_blame (t := 34) rfl hh
        simp (maxDischargeDepth := 12) -implicitDefEqProofs [vb_X12_blame_0, vb_X12_blame_16, vb_X12_blame_19, vb_X12_blame_34, vb_X12_blame_68, vb_X12_blame_94, vb_X12_blame_102, vb_X12_blame_119, vb_X12_blame_133, vb_X12_blame_135, vb_X12_blame_137, vb_X12_blame_143, vb_X12_blame_152, vb_X12_blame_154, xI_0, xI_1, xI_3, xI_6, xI_7, xI_8, xI_9, xI_14, xI_15, xI_36, xI_37, xI_38, xI_43, xI_44, xI_46, xI_49, xI_51, xI_60, xI_61, xI_62, xw_X12_blame_0, xw_X12_blame_16, xw_X12_blame_19, xw_X12_blame_34, xw_X12_blame_68, xw_X12_blame_94, xw_X12_blame_102, xw_X12_blame_119, xw_X12_blame_133, xw_X12_blame_135, xw_X12_blame_137, xw_X12_blame_143, xw_X12_blame_152, xw_X12_blame_154, zw_lit, xB_c, xB_s, xB_n, i1_c, j2_c, k1_c, jJ_e, xlg, xls, xla, xpd, ppush, zw_m1, zw_m2, zw_m3, gf_12_0, tg_12_0, gv_590_0, xD1, xD2, xD3, xD4, xD5, xD6, xb1_0, hA, c, c', hd, zk1, zk2, zk3, zk4, q] at hh
        obtain ⟨m, hm, hh⟩ := hh
        exact ih m hm (k + 1) _ s (by omega) (by omega) m0 (by omega) hh
    · have c' : A 2 ≤ k := by omega
      rw [show (A 2 - k).toNat = 0 by omega]
      by_cases w0 : w = 0
      · have hh := xw_top (hd := [34]) 16 xD6_ok xc_X12_blame xa_X12_blame (t := 34) rfl hh
        simp (maxDischargeDepth := 12) -implicitDefEqProofs [vb_X12_blame_0, vb_X12_blame_16, vb_X12_blame_19, vb_X12_blame_34, vb_X12_blame_68, vb_X12_blame_94, vb_X12_blame_102, vb_X12_blame_119, vb_X12_blame_133, vb_X12_blame_135, vb_X12_blame_137, vb_X12_blame_143, vb_X12_blame_152, vb_X12_blame_154, xI_0, xI_1, xI_3, xI_6, xI_7, xI_8, xI_9, xI_14, xI_15, xI_36, xI_37, xI_38, xI_43, xI_44, xI_46, xI_49, xI_51, xI_60, xI_61, xI_62, xw_X12_blame_0, xw_X12_blame_16, xw_X12_blame_19, xw_X12_blame_34, xw_X12_blame_68, xw_X12_blame_94, xw_X12_blame_102, xw_X12_blame_119, xw_X12_blame_133, xw_X12_blame_135, xw_X12_blame_137, xw_X12_blame_143, xw_X12_blame_152, xw_X12_blame_154, zw_lit, xB_c, xB_s, xB_n, i1_c, j2_c, k1_c, jJ_e, xlg, xls, xla, xpd, ppush, zw_m1, zw_m2, zw_m3, gf_12_0, tg_12_0, gv_590_0, xD1, xD2, xD3, xD4, xD5, xD6, xb1_0, hA, c, c', w0] at hh
        rw [if_pos w0]
        exact hh
      · have hh := xw_top (hd := [34]) 16 xD6_ok xc_X12_blame xa_X12_blame (t := 34) rfl hh
        simp (maxDischargeDepth := 12) -implicitDefEqProofs [vb_X12_blame_0, vb_X12_blame_16, vb_X12_blame_19, vb_X12_blame_34, vb_X12_blame_68, vb_X12_blame_94, vb_X12_blame_102, vb_X12_blame_119, vb_X12_blame_133, vb_X12_blame_135, vb_X12_blame_137, vb_X12_blame_143, vb_X12_blame_152, vb_X12_blame_154, xI_0, xI_1, xI_3, xI_6, xI_7, xI_8, xI_9, xI_14, xI_15, xI_36, xI_37, xI_38, xI_43, xI_44, xI_46, xI_49, xI_51, xI_60, xI_61, xI_62, xw_X12_blame_0, xw_X12_blame_16, xw_X12_blame_19, xw_X12_blame_34, xw_X12_blame_68, xw_X12_blame_94, xw_X12_blame_102, xw_X12_blame_119, xw_X12_blame_133, xw_X12_blame_135, xw_X12_blame_137, xw_X12_blame_143, xw_X12_blame_152, xw_X12_blame_154, zw_lit, xB_c, xB_s, xB_n, i1_c, j2_c, k1_c, jJ_e, xlg, xls, xla, xpd, ppush, zw_m1, zw_m2, zw_m3, gf_12_0, tg_12_0, gv_590_0, xD1, xD2, xD3, xD4, xD5, xD6, xb1_0, hA, c, c', w0] at hh
        rw [if_neg w0]
        exact hh
set_option maxRecDepth 100000 in
theorem sp_m_blame (u w : Int) (H : PH) (ok : OKR (H 591)) : SPEC 246 [(2, 590), (0, u), (0, w)] H (fun r H' => r = some (0, bmQ (H 591) u w) ∧ MQs H H') := by
  intro E n' res h
  have a0 := ok.1.1
  have a2 := ok.1.2.2.1
  have os := ok.2.2.1
  unfold OKS at os
  have z0 : zw (H 591 0 - 1) = H 591 0 - 1 := zw_lit (by omega) (by omega)
  have z2 : zw (H 591 2 - 1) = H 591 2 - 1 := zw_lit (by omega) (by omega)
  by_cases qu : 0 ≤ u ∧ u ≤ 4
  · have u0 := qu.1
    have u1 := qu.2
    have u2 : ¬ u < 0 := by omega
    have u3 : ¬ 4 < u := by omega
    by_cases qw : 0 ≤ w ∧ w ≤ 1
    · have w0 := qw.1
      have w1 := qw.2
      have w2 : ¬ w < 0 := by omega
      have w3 : ¬ 1 < w := by omega
      have hq : (0 ≤ u ∧ u ≤ 4) ∧ (0 ≤ w ∧ w ≤ 1) := by omega
      have b0 := blQ_in (H 591) u 0 a2
      have b1 := blQ_in (H 591) u 1 a2
      have h := call_runP 8 vm_X12_blame h
      have h := xw_top (hd := [34]) 16 xD6_ok xc_X12_blame xa_X12_blame (t := 0) rfl h
      simp (maxDischargeDepth := 12) -implicitDefEqProofs [vb_X12_blame_0, vb_X12_blame_16, vb_X12_blame_19, vb_X12_blame_34, vb_X12_blame_68, vb_X12_blame_94, vb_X12_blame_102, vb_X12_blame_119, vb_X12_blame_133, vb_X12_blame_135, vb_X12_blame_137, vb_X12_blame_143, vb_X12_blame_152, vb_X12_blame_154, xI_0, xI_1, xI_3, xI_6, xI_7, xI_8, xI_9, xI_14, xI_15, xI_36, xI_37, xI_38, xI_43, xI_44, xI_46, xI_49, xI_51, xI_60, xI_61, xI_62, xw_X12_blame_0, xw_X12_blame_16, xw_X12_blame_19, xw_X12_blame_34, xw_X12_blame_68, xw_X12_blame_94, xw_X12_blame_102, xw_X12_blame_119, xw_X12_blame_133, xw_X12_blame_135, xw_X12_blame_137, xw_X12_blame_143, xw_X12_blame_152, xw_X12_blame_154, zw_lit, xB_c, xB_s, xB_n, i1_c, j2_c, k1_c, jJ_e, xlg, xls, xla, xpd, ppush, zw_m1, zw_m2, zw_m3, gf_12_0, tg_12_0, gv_590_0, xD1, xD2, xD3, xD4, xD5, xD6, xb1_0, u0, u1, u2, u3, w0, w1, w2, w3] at h
      obtain ⟨r, H1, ⟨rfl, _, _, sc⟩, g⟩ := xc_use h (sp_X12_difference u H ok.1 ok.2.2.2)
      have eA : H1 591 = H 591 := sc.1 591 (by decide) (by decide)
      have mq := MQs_SC sc (by decide) (by decide)
      simp (maxDischargeDepth := 12) -implicitDefEqProofs [vb_X12_blame_0, vb_X12_blame_16, vb_X12_blame_19, vb_X12_blame_34, vb_X12_blame_68, vb_X12_blame_94, vb_X12_blame_102, vb_X12_blame_119, vb_X12_blame_133, vb_X12_blame_135, vb_X12_blame_137, vb_X12_blame_143, vb_X12_blame_152, vb_X12_blame_154, xI_0, xI_1, xI_3, xI_6, xI_7, xI_8, xI_9, xI_14, xI_15, xI_36, xI_37, xI_38, xI_43, xI_44, xI_46, xI_49, xI_51, xI_60, xI_61, xI_62, xw_X12_blame_0, xw_X12_blame_16, xw_X12_blame_19, xw_X12_blame_34, xw_X12_blame_68, xw_X12_blame_94, xw_X12_blame_102, xw_X12_blame_119, xw_X12_blame_133, xw_X12_blame_135, xw_X12_blame_137, xw_X12_blame_143, xw_X12_blame_152, xw_X12_blame_154, zw_lit, xB_c, xB_s, xB_n, i1_c, j2_c, k1_c, jJ_e, xlg, xls, xla, xpd, ppush, zw_m1, zw_m2, zw_m3, gf_12_0, tg_12_0, gv_590_0, xD1, xD2, xD3, xD4, xD5, xD6, xb1_0] at g
      obtain ⟨m, hm, g⟩ := g
      by_cases d0 : blQ (H 591) u 0 - blQ (H 591) u 1 = 0
      · have ez : bmZ (H 591) u = (0, -1) := if_pos d0
        rw [d0] at g
        have c1 : H 591 2 ≤ 0 ∨ ¬ H 591 2 ≤ 0 := by omega
        by_cases c : w = 0
        · have v : bmQ (H 591) u w = 0 := by unfold bmQ; rw [if_pos hq, if_pos c, ez]
          rw [v]
          rcases c1 with c1 | c1
          · have c1n : ¬ 0 < H 591 2 := by omega
            have g := xw_top (hd := [34]) 16 xD6_ok xc_X12_blame xa_X12_blame (t := 34) rfl g
            simp (maxDischargeDepth := 12) -implicitDefEqProofs [vb_X12_blame_0, vb_X12_blame_16, vb_X12_blame_19, vb_X12_blame_34, vb_X12_blame_68, vb_X12_blame_94, vb_X12_blame_102, vb_X12_blame_119, vb_X12_blame_133, vb_X12_blame_135, vb_X12_blame_137, vb_X12_blame_143, vb_X12_blame_152, vb_X12_blame_154, xI_0, xI_1, xI_3, xI_6, xI_7, xI_8, xI_9, xI_14, xI_15, xI_36, xI_37, xI_38, xI_43, xI_44, xI_46, xI_49, xI_51, xI_60, xI_61, xI_62, xw_X12_blame_0, xw_X12_blame_16, xw_X12_blame_19, xw_X12_blame_34, xw_X12_blame_68, xw_X12_blame_94, xw_X12_blame_102, xw_X12_blame_119, xw_X12_blame_133, xw_X12_blame_135, xw_X12_blame_137, xw_X12_blame_143, xw_X12_blame_152, xw_X12_blame_154, zw_lit, xB_c, xB_s, xB_n, i1_c, j2_c, k1_c, jJ_e, xlg, xls, xla, xpd, ppush, zw_m1, zw_m2, zw_m3, gf_12_0, tg_12_0, gv_590_0, xD1, xD2, xD3, xD4, xD5, xD6, xb1_0, eA, c1, c, c1n] at g
            exact ⟨_, _, g, rfl, mq⟩
          · have c2 : 0 < H 591 2 := by omega
            have g := xw_top (hd := [34]) 16 xD6_ok xc_X12_blame xa_X12_blame (t := 34) rfl g
            simp (maxDischargeDepth := 12) -implicitDefEqProofs [vb_X12_blame_0, vb_X12_blame_16, vb_X12_blame_19, vb_X12_blame_34, vb_X12_blame_68, vb_X12_blame_94, vb_X12_blame_102, vb_X12_blame_119, vb_X12_blame_133, vb_X12_blame_135, vb_X12_blame_137, vb_X12_blame_143, vb_X12_blame_152, vb_X12_blame_154, xI_0, xI_1, xI_3, xI_6, xI_7, xI_8, xI_9, xI_14, xI_15, xI_36, xI_37, xI_38, xI_43, xI_44, xI_46, xI_49, xI_51, xI_60, xI_61, xI_62, xw_X12_blame_0, xw_X12_blame_16, xw_X12_blame_19, xw_X12_blame_34, xw_X12_blame_68, xw_X12_blame_94, xw_X12_blame_102, xw_X12_blame_119, xw_X12_blame_133, xw_X12_blame_135, xw_X12_blame_137, xw_X12_blame_143, xw_X12_blame_152, xw_X12_blame_154, zw_lit, xB_c, xB_s, xB_n, i1_c, j2_c, k1_c, jJ_e, xlg, xls, xla, xpd, ppush, zw_m1, zw_m2, zw_m3, gf_12_0, tg_12_0, gv_590_0, xD1, xD2, xD3, xD4, xD5, xD6, xb1_0, eA, c1, c2, c] at g
            exact ⟨_, _, g, rfl, mq⟩
        · have v : bmQ (H 591) u w = -1 := by unfold bmQ; rw [if_pos hq, if_neg c, ez]
          rw [v]
          rcases c1 with c1 | c1
          · have c1n : ¬ 0 < H 591 2 := by omega
            have g := xw_top (hd := [34]) 16 xD6_ok xc_X12_blame xa_X12_blame (t := 34) rfl g
            simp (maxDischargeDepth := 12) -implicitDefEqProofs [vb_X12_blame_0, vb_X12_blame_16, vb_X12_blame_19, vb_X12_blame_34, vb_X12_blame_68, vb_X12_blame_94, vb_X12_blame_102, vb_X12_blame_119, vb_X12_blame_133, vb_X12_blame_135, vb_X12_blame_137, vb_X12_blame_143, vb_X12_blame_152, vb_X12_blame_154, xI_0, xI_1, xI_3, xI_6, xI_7, xI_8, xI_9, xI_14, xI_15, xI_36, xI_37, xI_38, xI_43, xI_44, xI_46, xI_49, xI_51, xI_60, xI_61, xI_62, xw_X12_blame_0, xw_X12_blame_16, xw_X12_blame_19, xw_X12_blame_34, xw_X12_blame_68, xw_X12_blame_94, xw_X12_blame_102, xw_X12_blame_119, xw_X12_blame_133, xw_X12_blame_135, xw_X12_blame_137, xw_X12_blame_143, xw_X12_blame_152, xw_X12_blame_154, zw_lit, xB_c, xB_s, xB_n, i1_c, j2_c, k1_c, jJ_e, xlg, xls, xla, xpd, ppush, zw_m1, zw_m2, zw_m3, gf_12_0, tg_12_0, gv_590_0, xD1, xD2, xD3, xD4, xD5, xD6, xb1_0, eA, c1, c, c1n] at g
            exact ⟨_, _, g, rfl, mq⟩
          · have c2 : 0 < H 591 2 := by omega
            have g := xw_top (hd := [34]) 16 xD6_ok xc_X12_blame xa_X12_blame (t := 34) rfl g
            simp (maxDischargeDepth := 12) -implicitDefEqProofs [vb_X12_blame_0, vb_X12_blame_16, vb_X12_blame_19, vb_X12_blame_34, vb_X12_blame_68, vb_X12_blame_94, vb_X12_blame_102, vb_X12_blame_119, vb_X12_blame_133, vb_X12_blame_135, vb_X12_blame_137, vb_X12_blame_143, vb_X12_blame_152, vb_X12_blame_154, xI_0, xI_1, xI_3, xI_6, xI_7, xI_8, xI_9, xI_14, xI_15, xI_36, xI_37, xI_38, xI_43, xI_44, xI_46, xI_49, xI_51, xI_60, xI_61, xI_62, xw_X12_blame_0, xw_X12_blame_16, xw_X12_blame_19, xw_X12_blame_34, xw_X12_blame_68, xw_X12_blame_94, xw_X12_blame_102, xw_X12_blame_119, xw_X12_blame_133, xw_X12_blame_135, xw_X12_blame_137, xw_X12_blame_143, xw_X12_blame_152, xw_X12_blame_154, zw_lit, xB_c, xB_s, xB_n, i1_c, j2_c, k1_c, jJ_e, xlg, xls, xla, xpd, ppush, zw_m1, zw_m2, zw_m3, gf_12_0, tg_12_0, gv_590_0, xD1, xD2, xD3, xD4, xD5, xD6, xb1_0, eA, c1, c2, c] at g
            exact ⟨_, _, g, rfl, mq⟩
      · have ez : bmZ (H 591) u = bmF (H 591) u (blQ (H 591) u 0 - blQ (H 591) u 1) (H 591 2).toNat 0 (0, -1) := if_neg d0
        have g := lp_mbm u w _ (H 591) H1 eA ok.1 ok.2.2.2 d0 (by omega) qw m 0 _ (0, -1) (by omega) a2.1 (Int.le_refl _) (Int.le_refl _) g
        rw [Int.sub_zero, ← ez] at g
        exact ⟨_, _, g, by unfold bmQ; rw [if_pos hq], mq⟩
    · by_cases w0 : 0 ≤ w
      · have w1 : ¬ w ≤ 1 := by omega
        have w2 : ¬ w < 0 := by omega
        have w3 : 1 < w := by omega
        have h := call_runP 8 vm_X12_blame h
        have h := xw_top (hd := [34]) 16 xD6_ok xc_X12_blame xa_X12_blame (t := 0) rfl h
        simp (maxDischargeDepth := 12) -implicitDefEqProofs [vb_X12_blame_0, vb_X12_blame_16, vb_X12_blame_19, vb_X12_blame_34, vb_X12_blame_68, vb_X12_blame_94, vb_X12_blame_102, vb_X12_blame_119, vb_X12_blame_133, vb_X12_blame_135, vb_X12_blame_137, vb_X12_blame_143, vb_X12_blame_152, vb_X12_blame_154, xI_0, xI_1, xI_3, xI_6, xI_7, xI_8, xI_9, xI_14, xI_15, xI_36, xI_37, xI_38, xI_43, xI_44, xI_46, xI_49, xI_51, xI_60, xI_61, xI_62, xw_X12_blame_0, xw_X12_blame_16, xw_X12_blame_19, xw_X12_blame_34, xw_X12_blame_68, xw_X12_blame_94, xw_X12_blame_102, xw_X12_blame_119, xw_X12_blame_133, xw_X12_blame_135, xw_X12_blame_137, xw_X12_blame_143, xw_X12_blame_152, xw_X12_blame_154, zw_lit, xB_c, xB_s, xB_n, i1_c, j2_c, k1_c, jJ_e, xlg, xls, xla, xpd, ppush, zw_m1, zw_m2, zw_m3, gf_12_0, tg_12_0, gv_590_0, xD1, xD2, xD3, xD4, xD5, xD6, xb1_0, u0, u1, u2, u3, w0, w1, w2, w3] at h
        exact ⟨_, _, h, by unfold bmQ; rw [if_neg (by omega)], MQs_refl⟩
      · have w2 : w < 0 := by omega
        have h := call_runP 8 vm_X12_blame h
        have h := xw_top (hd := [34]) 16 xD6_ok xc_X12_blame xa_X12_blame (t := 0) rfl h
        simp (maxDischargeDepth := 12) -implicitDefEqProofs [vb_X12_blame_0, vb_X12_blame_16, vb_X12_blame_19, vb_X12_blame_34, vb_X12_blame_68, vb_X12_blame_94, vb_X12_blame_102, vb_X12_blame_119, vb_X12_blame_133, vb_X12_blame_135, vb_X12_blame_137, vb_X12_blame_143, vb_X12_blame_152, vb_X12_blame_154, xI_0, xI_1, xI_3, xI_6, xI_7, xI_8, xI_9, xI_14, xI_15, xI_36, xI_37, xI_38, xI_43, xI_44, xI_46, xI_49, xI_51, xI_60, xI_61, xI_62, xw_X12_blame_0, xw_X12_blame_16, xw_X12_blame_19, xw_X12_blame_34, xw_X12_blame_68, xw_X12_blame_94, xw_X12_blame_102, xw_X12_blame_119, xw_X12_blame_133, xw_X12_blame_135, xw_X12_blame_137, xw_X12_blame_143, xw_X12_blame_152, xw_X12_blame_154, zw_lit, xB_c, xB_s, xB_n, i1_c, j2_c, k1_c, jJ_e, xlg, xls, xla, xpd, ppush, zw_m1, zw_m2, zw_m3, gf_12_0, tg_12_0, gv_590_0, xD1, xD2, xD3, xD4, xD5, xD6, xb1_0, u0, u1, u2, u3, w0, w2] at h
        exact ⟨_, _, h, by unfold bmQ; rw [if_neg (by omega)], MQs_refl⟩
  · by_cases u0 : 0 ≤ u
    · have u1 : ¬ u ≤ 4 := by omega
      have u2 : ¬ u < 0 := by omega
      have u3 : 4 < u := by omega
      have h := call_runP 8 vm_X12_blame h
      have h := xw_top (hd := [34]) 16 xD6_ok xc_X12_blame xa_X12_blame (t := 0) rfl h
      simp (maxDischargeDepth := 12) -implicitDefEqProofs [vb_X12_blame_0, vb_X12_blame_16, vb_X12_blame_19, vb_X12_blame_34, vb_X12_blame_68, vb_X12_blame_94, vb_X12_blame_102, vb_X12_blame_119, vb_X12_blame_133, vb_X12_blame_135, vb_X12_blame_137, vb_X12_blame_143, vb_X12_blame_152, vb_X12_blame_154, xI_0, xI_1, xI_3, xI_6, xI_7, xI_8, xI_9, xI_14, xI_15, xI_36, xI_37, xI_38, xI_43, xI_44, xI_46, xI_49, xI_51, xI_60, xI_61, xI_62, xw_X12_blame_0, xw_X12_blame_16, xw_X12_blame_19, xw_X12_blame_34, xw_X12_blame_68, xw_X12_blame_94, xw_X12_blame_102, xw_X12_blame_119, xw_X12_blame_133, xw_X12_blame_135, xw_X12_blame_137, xw_X12_blame_143, xw_X12_blame_152, xw_X12_blame_154, zw_lit, xB_c, xB_s, xB_n, i1_c, j2_c, k1_c, jJ_e, xlg, xls, xla, xpd, ppush, zw_m1, zw_m2, zw_m3, gf_12_0, tg_12_0, gv_590_0, xD1, xD2, xD3, xD4, xD5, xD6, xb1_0, u0, u1, u2, u3] at h
      exact ⟨_, _, h, by unfold bmQ; rw [if_neg (by omega)], MQs_refl⟩
    · have u2 : u < 0 := by omega
      have h := call_runP 8 vm_X12_blame h
      have h := xw_top (hd := [34]) 16 xD6_ok xc_X12_blame xa_X12_blame (t := 0) rfl h
      simp (maxDischargeDepth := 12) -implicitDefEqProofs [vb_X12_blame_0, vb_X12_blame_16, vb_X12_blame_19, vb_X12_blame_34, vb_X12_blame_68, vb_X12_blame_94, vb_X12_blame_102, vb_X12_blame_119, vb_X12_blame_133, vb_X12_blame_135, vb_X12_blame_137, vb_X12_blame_143, vb_X12_blame_152, vb_X12_blame_154, xI_0, xI_1, xI_3, xI_6, xI_7, xI_8, xI_9, xI_14, xI_15, xI_36, xI_37, xI_38, xI_43, xI_44, xI_46, xI_49, xI_51, xI_60, xI_61, xI_62, xw_X12_blame_0, xw_X12_blame_16, xw_X12_blame_19, xw_X12_blame_34, xw_X12_blame_68, xw_X12_blame_94, xw_X12_blame_102, xw_X12_blame_119, xw_X12_blame_133, xw_X12_blame_135, xw_X12_blame_137, xw_X12_blame_143, xw_X12_blame_152, xw_X12_blame_154, zw_lit, xB_c, xB_s, xB_n, i1_c, j2_c, k1_c, jJ_e, xlg, xls, xla, xpd, ppush, zw_m1, zw_m2, zw_m3, gf_12_0, tg_12_0, gv_590_0, xD1, xD2, xD3, xD4, xD5, xD6, xb1_0, u0, u2] at h
      exact ⟨_, _, h, by unfold bmQ; rw [if_neg (by omega)], MQs_refl⟩
/-! the bill least apart from one -/
def FR45 (H H' : PH) : Prop := ∀ c, ¬ c = 44 → ¬ c = 45 → H' c = H c
theorem CI_bap {A : Int → Int} {H H1 : PH} {i b : Int} (ci : CI H A) (f : FR45 H H1) (hi : 0 ≤ i ∧ i < A 0) (hb : 0 ≤ b ∧ b < A 0) : apC H1 (H (57 + 3 * i) 0) (H (57 + 3 * b) 0) = bapA A i b := by
  have vs := (ci.1.2.1 i hi.1 hi.2).1
  have vb := (ci.1.2.1 b hb.1 hb.2).1
  unfold bapA apB apA
  exact apC_A (fun x y x0 x1 y0 y1 => by rw [f _ (by omega) (by omega)]; exact ci.1.2.2.2.1 x y x0 x1 y0 y1) vs vb
set_option maxRecDepth 100000 in
theorem lp_ctw (b w : Int) (A : Int → Int) (X : PH) (hB : MB A) (ci : CI X A) (hb : 0 ≤ b ∧ b < A 0) (hw : 0 ≤ w ∧ w ≤ 1) {E : xE} {res : xR} : ∀ (n : Nat) (i y : Int) (s : Int × Int) (H : PH), 0 ≤ i → i ≤ A 0 → FR45 X H → RUN E res n kd_X11_twin (zget kd_X11_twin 27) 27 [0, b, w, s.1, s.2, i, y] [] H → ∃ H' : PH, FR45 X H' ∧ REPR E res (some (0, if w = 0 then (twF (fun i => bapA A i b) b (A 0 - i).toNat i s).1 else (twF (fun i => bapA A i b) b (A 0 - i).toNat i s).2)) H' := by
  intro n
  induction n using Nat.strongRecOn with
  | _ n ih =>
    intro i y s H i0 i1 hF hh
    have a0 := hB.1
    have e2 : H 1 2 = A 0 := by rw [hF 1 (by decide) (by decide)]; exact ci.1.1.1.symm
    have z1 : zw (i + 1) = i + 1 := zw_lit (by omega) (by omega)
    by_cases c : i < A 0
    · have c' : ¬ A 0 ≤ i := by omega
      have gi : gv H 46 i = 57 + 3 * i := gv46 i0 (by omega)
      have gb : gv H 46 b = 57 + 3 * b := gv46 hb.1 (by omega)
      have g0 := (KB_f (KB_of (b := i) i0 (by omega))).2.2.1
      have g0' := (KB_f (KB_of (b := b) hb.1 (by omega))).2.2.1
      have ei : H (57 + 3 * i) = X (57 + 3 * i) := hF _ (by omega) (by omega)
      have eb : H (57 + 3 * b) = X (57 + 3 * b) := hF _ (by omega) (by omega)
      have vi := (ci.1.2.1 i i0 c).1
      have vb := (ci.1.2.1 b hb.1 hb.2).1
      have st : (A 0 - i).toNat = (A 0 - (i + 1)).toNat + 1 := by omega
      rw [st]
      unfold twF
      have hh := xw_top (hd := [27]) 11 xD6_ok xc_X11_twin xa_X11_twin (t := 27) rfl hh
      simp (maxDischargeDepth := 12) -implicitDefEqProofs [vb_X11_twin_0, vb_X11_twin_17, vb_X11_twin_19, vb_X11_twin_27, vb_X11_twin_94, vb_X11_twin_101, vb_X11_twin_107, vb_X11_twin_115, vb_X11_twin_117, xI_0, xI_1, xI_3, xI_6, xI_7, xI_36, xI_37, xI_38, xI_43, xI_46, xI_49, xI_53, xI_60, xI_61, xI_62, xw_X11_twin_0, xw_X11_twin_17, xw_X11_twin_19, xw_X11_twin_27, xw_X11_twin_94, xw_X11_twin_101, xw_X11_twin_107, xw_X11_twin_115, xw_X11_twin_117, zw_lit, xB_c, xB_s, xB_n, i1_c, j2_c, k1_c, jJ_e, xlg, xls, xla, xpd, ppush, zw_m1, zw_m2, zw_m3, gf_0_0, gf_1_0, gf_1_1, gf_1_2, gf_11_0, tg_0_0, tg_11_0, tg_1_0, tg_1_1, tg_1_2, gv_1_0, gv_1_1, gv_1_2, gv_0_0, xD1, xD2, xD3, xD4, xD5, xD6, xb1_0, e2, c, c', gi, gb, g0, g0', ei, eb] at hh
      obtain ⟨r, H1, ⟨rfl, hf⟩, g⟩ := xc_use hh (sp_X8_gap (X (57 + 3 * i) 0) (X (57 + 3 * b) 0) H (by have := vi.1; have := vi.2.1; omega) (by have := vb.1; have := vb.2.1; omega) (fun j j0 j1 => by have := vi.2.2.1 j j0 (by have := vi.1; omega); omega))
      rw [CI_bap ci hF ⟨i0, c⟩ hb] at g
      have hF1 : FR45 X H1 := fun d p q => (hf d p q).trans (hF d p q)
      by_cases q : i = b
      · have es : twS (fun i => bapA A i b) b i s = s := if_neg (fun w => w.1 q)
        rw [es]
        have q' : (i = b) = True := eq_true q
        simp (maxDischargeDepth := 12) -implicitDefEqProofs [vb_X11_twin_0, vb_X11_twin_17, vb_X11_twin_19, vb_X11_twin_27, vb_X11_twin_94, vb_X11_twin_101, vb_X11_twin_107, vb_X11_twin_115, vb_X11_twin_117, xI_0, xI_1, xI_3, xI_6, xI_7, xI_36, xI_37, xI_38, xI_43, xI_46, xI_49, xI_53, xI_60, xI_61, xI_62, xw_X11_twin_0, xw_X11_twin_17, xw_X11_twin_19, xw_X11_twin_27, xw_X11_twin_94, xw_X11_twin_101, xw_X11_twin_107, xw_X11_twin_115, xw_X11_twin_117, zw_lit, xB_c, xB_s, xB_n, i1_c, j2_c, k1_c, jJ_e, xlg, xls, xla, xpd, ppush, zw_m1, zw_m2, zw_m3, gf_0_0, gf_1_0, gf_1_1, gf_1_2, gf_11_0, tg_0_0, tg_11_0, tg_1_0, tg_1_1, tg_1_2, gv_1_0, gv_1_1, gv_1_2, gv_0_0, xD1, xD2, xD3, xD4, xD5, xD6, xb1_0, q', z1] at g
        obtain ⟨m, hm, g⟩ := g
        exact ih m hm (i + 1) _ s H1 (by omega) (by omega) hF1 g
      · by_cases q1 : s.1 = -1
        · have es : twS (fun i => bapA A i b) b i s = (i, bapA A i b) := if_pos ⟨q, Or.inl q1⟩
          rw [es]
          simp (maxDischargeDepth := 12) -implicitDefEqProofs [vb_X11_twin_0, vb_X11_twin_17, vb_X11_twin_19, vb_X11_twin_27, vb_X11_twin_94, vb_X11_twin_101, vb_X11_twin_107, vb_X11_twin_115, vb_X11_twin_117, xI_0, xI_1, xI_3, xI_6, xI_7, xI_36, xI_37, xI_38, xI_43, xI_46, xI_49, xI_53, xI_60, xI_61, xI_62, xw_X11_twin_0, xw_X11_twin_17, xw_X11_twin_19, xw_X11_twin_27, xw_X11_twin_94, xw_X11_twin_101, xw_X11_twin_107, xw_X11_twin_115, xw_X11_twin_117, zw_lit, xB_c, xB_s, xB_n, i1_c, j2_c, k1_c, jJ_e, xlg, xls, xla, xpd, ppush, zw_m1, zw_m2, zw_m3, gf_0_0, gf_1_0, gf_1_1, gf_1_2, gf_11_0, tg_0_0, tg_11_0, tg_1_0, tg_1_1, tg_1_2, gv_1_0, gv_1_1, gv_1_2, gv_0_0, xD1, xD2, xD3, xD4, xD5, xD6, xb1_0, q, q1, z1] at g
          obtain ⟨m, hm, g⟩ := g
          exact ih m hm (i + 1) _ (i, bapA A i b) H1 (by omega) (by omega) hF1 g
        · by_cases q2 : bapA A i b < s.2
          · have q3 : ¬ s.2 ≤ bapA A i b := by omega
            have es : twS (fun i => bapA A i b) b i s = (i, bapA A i b) := if_pos ⟨q, Or.inr q2⟩
            rw [es]
            simp (maxDischargeDepth := 12) -implicitDefEqProofs [vb_X11_twin_0, vb_X11_twin_17, vb_X11_twin_19, vb_X11_twin_27, vb_X11_twin_94, vb_X11_twin_101, vb_X11_twin_107, vb_X11_twin_115, vb_X11_twin_117, xI_0, xI_1, xI_3, xI_6, xI_7, xI_36, xI_37, xI_38, xI_43, xI_46, xI_49, xI_53, xI_60, xI_61, xI_62, xw_X11_twin_0, xw_X11_twin_17, xw_X11_twin_19, xw_X11_twin_27, xw_X11_twin_94, xw_X11_twin_101, xw_X11_twin_107, xw_X11_twin_115, xw_X11_twin_117, zw_lit, xB_c, xB_s, xB_n, i1_c, j2_c, k1_c, jJ_e, xlg, xls, xla, xpd, ppush, zw_m1, zw_m2, zw_m3, gf_0_0, gf_1_0, gf_1_1, gf_1_2, gf_11_0, tg_0_0, tg_11_0, tg_1_0, tg_1_1, tg_1_2, gv_1_0, gv_1_1, gv_1_2, gv_0_0, xD1, xD2, xD3, xD4, xD5, xD6, xb1_0, q, q1, q2, q3, z1] at g
            obtain ⟨m, hm, g⟩ := g
            exact ih m hm (i + 1) _ (i, bapA A i b) H1 (by omega) (by omega) hF1 g
          · have q3 : s.2 ≤ bapA A i b := by omega
            have es : twS (fun i => bapA A i b) b i s = s := if_neg (fun w => w.2.elim q1 q2)
            rw [es]
            simp (maxDischargeDepth := 12) -implicitDefEqProofs [vb_X11_twin_0, vb_X11_twin_17, vb_X11_twin_19, vb_X11_twin_27, vb_X11_twin_94, vb_X11_twin_101, vb_X11_twin_107, vb_X11_twin_115, vb_X11_twin_117, xI_0, xI_1, xI_3, xI_6, xI_7, xI_36, xI_37, xI_38, xI_43, xI_46, xI_49, xI_53, xI_60, xI_61, xI_62, xw_X11_twin_0, xw_X11_twin_17, xw_X11_twin_19, xw_X11_twin_27, xw_X11_twin_94, xw_X11_twin_101, xw_X11_twin_107, xw_X11_twin_115, xw_X11_twin_117, zw_lit, xB_c, xB_s, xB_n, i1_c, j2_c, k1_c, jJ_e, xlg, xls, xla, xpd, ppush, zw_m1, zw_m2, zw_m3, gf_0_0, gf_1_0, gf_1_1, gf_1_2, gf_11_0, tg_0_0, tg_11_0, tg_1_0, tg_1_1, tg_1_2, gv_1_0, gv_1_1, gv_1_2, gv_0_0, xD1, xD2, xD3, xD4, xD5, xD6, xb1_0, q, q1, q2, q3, z1] at g
            obtain ⟨m, hm, g⟩ := g
            exact ih m hm (i + 1) _ s H1 (by omega) (by omega) hF1 g
    · have c' : A 0 ≤ i := by omega
      rw [show (A 0 - i).toNat = 0 by omega]
      by_cases w0 : w = 0
      · have hh := xw_top (hd := [27]) 11 xD6_ok xc_X11_twin xa_X11_twin (t := 27) rfl hh
        simp (maxDischargeDepth := 12) -implicitDefEqProofs [vb_X11_twin_0, vb_X11_twin_17, vb_X11_twin_19, vb_X11_twin_27, vb_X11_twin_94, vb_X11_twin_101, vb_X11_twin_107, vb_X11_twin_115, vb_X11_twin_117, xI_0, xI_1, xI_3, xI_6, xI_7, xI_36, xI_37, xI_38, xI_43, xI_46, xI_49, xI_53, xI_60, xI_61, xI_62, xw_X11_twin_0, xw_X11_twin_17, xw_X11_twin_19, xw_X11_twin_27, xw_X11_twin_94, xw_X11_twin_101, xw_X11_twin_107, xw_X11_twin_115, xw_X11_twin_117, zw_lit, xB_c, xB_s, xB_n, i1_c, j2_c, k1_c, jJ_e, xlg, xls, xla, xpd, ppush, zw_m1, zw_m2, zw_m3, gf_0_0, gf_1_0, gf_1_1, gf_1_2, gf_11_0, tg_0_0, tg_11_0, tg_1_0, tg_1_1, tg_1_2, gv_1_0, gv_1_1, gv_1_2, gv_0_0, xD1, xD2, xD3, xD4, xD5, xD6, xb1_0, e2, c, c', w0] at hh
        rw [if_pos w0]
        exact ⟨H, hF, hh⟩
      · have hh := xw_top (hd := [27]) 11 xD6_ok xc_X11_twin xa_X11_twin (t := 27) rfl hh
        simp (maxDischargeDepth := 12) -implicitDefEqProofs [vb_X11_twin_0, vb_X11_twin_17, vb_X11_twin_19, vb_X11_twin_27, vb_X11_twin_94, vb_X11_twin_101, vb_X11_twin_107, vb_X11_twin_115, vb_X11_twin_117, xI_0, xI_1, xI_3, xI_6, xI_7, xI_36, xI_37, xI_38, xI_43, xI_46, xI_49, xI_53, xI_60, xI_61, xI_62, xw_X11_twin_0, xw_X11_twin_17, xw_X11_twin_19, xw_X11_twin_27, xw_X11_twin_94, xw_X11_twin_101, xw_X11_twin_107, xw_X11_twin_115, xw_X11_twin_117, zw_lit, xB_c, xB_s, xB_n, i1_c, j2_c, k1_c, jJ_e, xlg, xls, xla, xpd, ppush, zw_m1, zw_m2, zw_m3, gf_0_0, gf_1_0, gf_1_1, gf_1_2, gf_11_0, tg_0_0, tg_11_0, tg_1_0, tg_1_1, tg_1_2, gv_1_0, gv_1_1, gv_1_2, gv_0_0, xD1, xD2, xD3, xD4, xD5, xD6, xb1_0, e2, c, c', w0] at hh
        rw [if_neg w0]
        exact ⟨H, hF, hh⟩
set_option maxRecDepth 100000 in
theorem sp_c_twin (b w : Int) (S : Int → Int → Int) (n : Int) (H : PH) (hR : RC H S n) (hM : MCC (S 0) H) : SPEC 133 [(2, 0), (0, b), (0, w)] H (fun r H' => r = some (0, twQ (S 0) b w) ∧ CQ H H' S n) := by
  intro E n' res h
  obtain ⟨e0, e2, z0, z2, a0, a2⟩ := RC_12 hR
  have ok0 := RC_sz hR
  by_cases qb : 0 ≤ b ∧ b ≤ H 1 2 - 1
  · have b0 := qb.1
    have b1 := qb.2
    have b2 : ¬ b < 0 := by omega
    have b3 : ¬ H 1 2 - 1 < b := by omega
    by_cases qw : 0 ≤ w ∧ w ≤ 1
    · have w0 := qw.1
      have w1 := qw.2
      have w2 : ¬ w < 0 := by omega
      have w3 : ¬ 1 < w := by omega
      have hq : (0 ≤ b ∧ b < S 0 0) ∧ (0 ≤ w ∧ w ≤ 1) := by omega
      have h := call_runP 7 vm_X11_twin h
      have h := xw_top (hd := [27]) 11 xD6_ok xc_X11_twin xa_X11_twin (t := 0) rfl h
      simp (maxDischargeDepth := 12) -implicitDefEqProofs [vb_X11_twin_0, vb_X11_twin_17, vb_X11_twin_19, vb_X11_twin_27, vb_X11_twin_94, vb_X11_twin_101, vb_X11_twin_107, vb_X11_twin_115, vb_X11_twin_117, xI_0, xI_1, xI_3, xI_6, xI_7, xI_36, xI_37, xI_38, xI_43, xI_46, xI_49, xI_53, xI_60, xI_61, xI_62, xw_X11_twin_0, xw_X11_twin_17, xw_X11_twin_19, xw_X11_twin_27, xw_X11_twin_94, xw_X11_twin_101, xw_X11_twin_107, xw_X11_twin_115, xw_X11_twin_117, zw_lit, xB_c, xB_s, xB_n, i1_c, j2_c, k1_c, jJ_e, xlg, xls, xla, xpd, ppush, zw_m1, zw_m2, zw_m3, gf_0_0, gf_1_0, gf_1_1, gf_1_2, gf_11_0, tg_0_0, tg_11_0, tg_1_0, tg_1_1, tg_1_2, gv_1_0, gv_1_1, gv_1_2, gv_0_0, xD1, xD2, xD3, xD4, xD5, xD6, xb1_0, z0, b0, b1, b2, b3, w0, w1, w2, w3] at h
      obtain ⟨m, hm, g⟩ := h
      obtain ⟨H', hF, g⟩ := lp_ctw b w (S 0) H ok0.1 hR.1 hq.1 qw m 0 _ (-1, -1) H (by omega) a0.1 (fun _ _ _ => rfl) g
      rw [Int.sub_zero] at g
      exact ⟨_, H', g, by unfold twQ; rw [if_pos hq]; rfl, CQ_54 (CQ_refl hR hM) (fun c p q _ => hF c p q)⟩
    · by_cases w0 : 0 ≤ w
      · have w1 : ¬ w ≤ 1 := by omega
        have w2 : ¬ w < 0 := by omega
        have w3 : 1 < w := by omega
        have h := call_runP 7 vm_X11_twin h
        have h := xw_top (hd := [27]) 11 xD6_ok xc_X11_twin xa_X11_twin (t := 0) rfl h
        simp (maxDischargeDepth := 12) -implicitDefEqProofs [vb_X11_twin_0, vb_X11_twin_17, vb_X11_twin_19, vb_X11_twin_27, vb_X11_twin_94, vb_X11_twin_101, vb_X11_twin_107, vb_X11_twin_115, vb_X11_twin_117, xI_0, xI_1, xI_3, xI_6, xI_7, xI_36, xI_37, xI_38, xI_43, xI_46, xI_49, xI_53, xI_60, xI_61, xI_62, xw_X11_twin_0, xw_X11_twin_17, xw_X11_twin_19, xw_X11_twin_27, xw_X11_twin_94, xw_X11_twin_101, xw_X11_twin_107, xw_X11_twin_115, xw_X11_twin_117, zw_lit, xB_c, xB_s, xB_n, i1_c, j2_c, k1_c, jJ_e, xlg, xls, xla, xpd, ppush, zw_m1, zw_m2, zw_m3, gf_0_0, gf_1_0, gf_1_1, gf_1_2, gf_11_0, tg_0_0, tg_11_0, tg_1_0, tg_1_1, tg_1_2, gv_1_0, gv_1_1, gv_1_2, gv_0_0, xD1, xD2, xD3, xD4, xD5, xD6, xb1_0, z0, b0, b1, b2, b3, w0, w1, w2, w3] at h
        exact ⟨_, _, h, by unfold twQ; rw [if_neg (by omega)], CQ_refl hR hM⟩
      · have w2 : w < 0 := by omega
        have h := call_runP 7 vm_X11_twin h
        have h := xw_top (hd := [27]) 11 xD6_ok xc_X11_twin xa_X11_twin (t := 0) rfl h
        simp (maxDischargeDepth := 12) -implicitDefEqProofs [vb_X11_twin_0, vb_X11_twin_17, vb_X11_twin_19, vb_X11_twin_27, vb_X11_twin_94, vb_X11_twin_101, vb_X11_twin_107, vb_X11_twin_115, vb_X11_twin_117, xI_0, xI_1, xI_3, xI_6, xI_7, xI_36, xI_37, xI_38, xI_43, xI_46, xI_49, xI_53, xI_60, xI_61, xI_62, xw_X11_twin_0, xw_X11_twin_17, xw_X11_twin_19, xw_X11_twin_27, xw_X11_twin_94, xw_X11_twin_101, xw_X11_twin_107, xw_X11_twin_115, xw_X11_twin_117, zw_lit, xB_c, xB_s, xB_n, i1_c, j2_c, k1_c, jJ_e, xlg, xls, xla, xpd, ppush, zw_m1, zw_m2, zw_m3, gf_0_0, gf_1_0, gf_1_1, gf_1_2, gf_11_0, tg_0_0, tg_11_0, tg_1_0, tg_1_1, tg_1_2, gv_1_0, gv_1_1, gv_1_2, gv_0_0, xD1, xD2, xD3, xD4, xD5, xD6, xb1_0, z0, b0, b1, b2, b3, w0, w2] at h
        exact ⟨_, _, h, by unfold twQ; rw [if_neg (by omega)], CQ_refl hR hM⟩
  · by_cases b0 : 0 ≤ b
    · have b1 : ¬ b ≤ H 1 2 - 1 := by omega
      have b2 : ¬ b < 0 := by omega
      have b3 : H 1 2 - 1 < b := by omega
      have h := call_runP 7 vm_X11_twin h
      have h := xw_top (hd := [27]) 11 xD6_ok xc_X11_twin xa_X11_twin (t := 0) rfl h
      simp (maxDischargeDepth := 12) -implicitDefEqProofs [vb_X11_twin_0, vb_X11_twin_17, vb_X11_twin_19, vb_X11_twin_27, vb_X11_twin_94, vb_X11_twin_101, vb_X11_twin_107, vb_X11_twin_115, vb_X11_twin_117, xI_0, xI_1, xI_3, xI_6, xI_7, xI_36, xI_37, xI_38, xI_43, xI_46, xI_49, xI_53, xI_60, xI_61, xI_62, xw_X11_twin_0, xw_X11_twin_17, xw_X11_twin_19, xw_X11_twin_27, xw_X11_twin_94, xw_X11_twin_101, xw_X11_twin_107, xw_X11_twin_115, xw_X11_twin_117, zw_lit, xB_c, xB_s, xB_n, i1_c, j2_c, k1_c, jJ_e, xlg, xls, xla, xpd, ppush, zw_m1, zw_m2, zw_m3, gf_0_0, gf_1_0, gf_1_1, gf_1_2, gf_11_0, tg_0_0, tg_11_0, tg_1_0, tg_1_1, tg_1_2, gv_1_0, gv_1_1, gv_1_2, gv_0_0, xD1, xD2, xD3, xD4, xD5, xD6, xb1_0, z0, b0, b1, b2, b3] at h
      exact ⟨_, _, h, by unfold twQ; rw [if_neg (by omega)], CQ_refl hR hM⟩
    · have b2 : b < 0 := by omega
      have h := call_runP 7 vm_X11_twin h
      have h := xw_top (hd := [27]) 11 xD6_ok xc_X11_twin xa_X11_twin (t := 0) rfl h
      simp (maxDischargeDepth := 12) -implicitDefEqProofs [vb_X11_twin_0, vb_X11_twin_17, vb_X11_twin_19, vb_X11_twin_27, vb_X11_twin_94, vb_X11_twin_101, vb_X11_twin_107, vb_X11_twin_115, vb_X11_twin_117, xI_0, xI_1, xI_3, xI_6, xI_7, xI_36, xI_37, xI_38, xI_43, xI_46, xI_49, xI_53, xI_60, xI_61, xI_62, xw_X11_twin_0, xw_X11_twin_17, xw_X11_twin_19, xw_X11_twin_27, xw_X11_twin_94, xw_X11_twin_101, xw_X11_twin_107, xw_X11_twin_115, xw_X11_twin_117, zw_lit, xB_c, xB_s, xB_n, i1_c, j2_c, k1_c, jJ_e, xlg, xls, xla, xpd, ppush, zw_m1, zw_m2, zw_m3, gf_0_0, gf_1_0, gf_1_1, gf_1_2, gf_11_0, tg_0_0, tg_11_0, tg_1_0, tg_1_1, tg_1_2, gv_1_0, gv_1_1, gv_1_2, gv_0_0, xD1, xD2, xD3, xD4, xD5, xD6, xb1_0, z0, b0, b2] at h
      exact ⟨_, _, h, by unfold twQ; rw [if_neg (by omega)], CQ_refl hR hM⟩
set_option maxRecDepth 100000 in
theorem lp_mtw (b w : Int) (A : Int → Int) (hB : MB A) (hb : 0 ≤ b ∧ b < A 0) (hw : 0 ≤ w ∧ w ≤ 1) {E : xE} {res : xR} : ∀ (n : Nat) (i y : Int) (s : Int × Int) (H : PH), 0 ≤ i → i ≤ A 0 → H 591 = A → RUN E res n kd_X12_twin (zget kd_X12_twin 27) 27 [590, b, w, s.1, s.2, i, y] [] H → ∃ H' : PH, SCm [599] [17, 18, 19] H H' ∧ REPR E res (some (0, if w = 0 then (twF (fun i => bapA A i b) b (A 0 - i).toNat i s).1 else (twF (fun i => bapA A i b) b (A 0 - i).toNat i s).2)) H' := by
  intro n
  induction n using Nat.strongRecOn with
  | _ n ih =>
    intro i y s H i0 i1 hA hh
    have a0 := hB.1
    have z1 : zw (i + 1) = i + 1 := zw_lit (by omega) (by omega)
    by_cases c : i < A 0
    · have c' : ¬ A 0 ≤ i := by omega
      have st : (A 0 - i).toNat = (A 0 - (i + 1)).toNat + 1 := by omega
      rw [st]
      unfold twF
      by_cases q : i = b
      · have es : twS (fun i => bapA A i b) b i s = s := if_neg (fun w => w.1 q)
        rw [es]
        have q' : (i = b) = True := eq_true q
        have hh := xw_top (hd := [27]) 12 xD6_ok xc_X12_twin xa_X12_twin (t := 27) rfl hh
        simp (maxDischargeDepth := 12) -implicitDefEqProofs [vb_X12_twin_0, vb_X12_twin_17, vb_X12_twin_19, vb_X12_twin_27, vb_X12_twin_47, vb_X12_twin_71, vb_X12_twin_78, vb_X12_twin_84, vb_X12_twin_92, vb_X12_twin_94, xI_0, xI_1, xI_3, xI_6, xI_7, xI_36, xI_37, xI_38, xI_43, xI_44, xI_45, xI_46, xI_49, xI_51, xI_60, xI_61, xI_62, xw_X12_twin_0, xw_X12_twin_17, xw_X12_twin_19, xw_X12_twin_27, xw_X12_twin_47, xw_X12_twin_71, xw_X12_twin_78, xw_X12_twin_84, xw_X12_twin_92, xw_X12_twin_94, zw_lit, xB_c, xB_s, xB_n, i1_c, j2_c, k1_c, jJ_e, xlg, xls, xla, xpd, ppush, zw_m1, zw_m2, zw_m3, gf_12_0, tg_12_0, gv_590_0, xD1, xD2, xD3, xD4, xD5, xD6, xb1_0, hA, c, c', q', z1] at hh
        obtain ⟨m, hm, g⟩ := hh
        exact ih m hm (i + 1) _ s H (by omega) (by omega) hA g
      · have hh := xw_top (hd := [27]) 12 xD6_ok xc_X12_twin xa_X12_twin (t := 27) rfl hh
        simp (maxDischargeDepth := 12) -implicitDefEqProofs [vb_X12_twin_0, vb_X12_twin_17, vb_X12_twin_19, vb_X12_twin_27, vb_X12_twin_47, vb_X12_twin_71, vb_X12_twin_78, vb_X12_twin_84, vb_X12_twin_92, vb_X12_twin_94, xI_0, xI_1, xI_3, xI_6, xI_7, xI_36, xI_37, xI_38, xI_43, xI_44, xI_45, xI_46, xI_49, xI_51, xI_60, xI_61, xI_62, xw_X12_twin_0, xw_X12_twin_17, xw_X12_twin_19, xw_X12_twin_27, xw_X12_twin_47, xw_X12_twin_71, xw_X12_twin_78, xw_X12_twin_84, xw_X12_twin_92, xw_X12_twin_94, zw_lit, xB_c, xB_s, xB_n, i1_c, j2_c, k1_c, jJ_e, xlg, xls, xla, xpd, ppush, zw_m1, zw_m2, zw_m3, gf_12_0, tg_12_0, gv_590_0, xD1, xD2, xD3, xD4, xD5, xD6, xb1_0, hA, c, c', q] at hh
        obtain ⟨r, H1, ⟨rfl, sc⟩, g⟩ := xc_use hh (sp_X12_billApart i b H (by rw [hA]; exact hB) ⟨i0, by omega⟩ ⟨hb.1, by omega⟩)
        rw [hA] at g
        have eA : H1 591 = A := (sc.1 591 (by decide) (by decide)).trans hA
        by_cases q1 : s.1 = -1
        · have es : twS (fun i => bapA A i b) b i s = (i, bapA A i b) := if_pos ⟨q, Or.inl q1⟩
          rw [es]
          simp (maxDischargeDepth := 12) -implicitDefEqProofs [vb_X12_twin_0, vb_X12_twin_17, vb_X12_twin_19, vb_X12_twin_27, vb_X12_twin_47, vb_X12_twin_71, vb_X12_twin_78, vb_X12_twin_84, vb_X12_twin_92, vb_X12_twin_94, xI_0, xI_1, xI_3, xI_6, xI_7, xI_36, xI_37, xI_38, xI_43, xI_44, xI_45, xI_46, xI_49, xI_51, xI_60, xI_61, xI_62, xw_X12_twin_0, xw_X12_twin_17, xw_X12_twin_19, xw_X12_twin_27, xw_X12_twin_47, xw_X12_twin_71, xw_X12_twin_78, xw_X12_twin_84, xw_X12_twin_92, xw_X12_twin_94, zw_lit, xB_c, xB_s, xB_n, i1_c, j2_c, k1_c, jJ_e, xlg, xls, xla, xpd, ppush, zw_m1, zw_m2, zw_m3, gf_12_0, tg_12_0, gv_590_0, xD1, xD2, xD3, xD4, xD5, xD6, xb1_0, q1, z1] at g
          obtain ⟨m, hm, g⟩ := g
          obtain ⟨H', s2, g⟩ := ih m hm (i + 1) _ (i, bapA A i b) H1 (by omega) (by omega) eA g
          exact ⟨H', SCm_trans sc s2, g⟩
        · by_cases q2 : bapA A i b < s.2
          · have q3 : ¬ s.2 ≤ bapA A i b := by omega
            have es : twS (fun i => bapA A i b) b i s = (i, bapA A i b) := if_pos ⟨q, Or.inr q2⟩
            rw [es]
            simp (maxDischargeDepth := 12) -implicitDefEqProofs [vb_X12_twin_0, vb_X12_twin_17, vb_X12_twin_19, vb_X12_twin_27, vb_X12_twin_47, vb_X12_twin_71, vb_X12_twin_78, vb_X12_twin_84, vb_X12_twin_92, vb_X12_twin_94, xI_0, xI_1, xI_3, xI_6, xI_7, xI_36, xI_37, xI_38, xI_43, xI_44, xI_45, xI_46, xI_49, xI_51, xI_60, xI_61, xI_62, xw_X12_twin_0, xw_X12_twin_17, xw_X12_twin_19, xw_X12_twin_27, xw_X12_twin_47, xw_X12_twin_71, xw_X12_twin_78, xw_X12_twin_84, xw_X12_twin_92, xw_X12_twin_94, zw_lit, xB_c, xB_s, xB_n, i1_c, j2_c, k1_c, jJ_e, xlg, xls, xla, xpd, ppush, zw_m1, zw_m2, zw_m3, gf_12_0, tg_12_0, gv_590_0, xD1, xD2, xD3, xD4, xD5, xD6, xb1_0, q1, q2, q3, z1] at g
            obtain ⟨m, hm, g⟩ := g
            obtain ⟨H', s2, g⟩ := ih m hm (i + 1) _ (i, bapA A i b) H1 (by omega) (by omega) eA g
            exact ⟨H', SCm_trans sc s2, g⟩
          · have q3 : s.2 ≤ bapA A i b := by omega
            have es : twS (fun i => bapA A i b) b i s = s := if_neg (fun w => w.2.elim q1 q2)
            rw [es]
            simp (maxDischargeDepth := 12) -implicitDefEqProofs [vb_X12_twin_0, vb_X12_twin_17, vb_X12_twin_19, vb_X12_twin_27, vb_X12_twin_47, vb_X12_twin_71, vb_X12_twin_78, vb_X12_twin_84, vb_X12_twin_92, vb_X12_twin_94, xI_0, xI_1, xI_3, xI_6, xI_7, xI_36, xI_37, xI_38, xI_43, xI_44, xI_45, xI_46, xI_49, xI_51, xI_60, xI_61, xI_62, xw_X12_twin_0, xw_X12_twin_17, xw_X12_twin_19, xw_X12_twin_27, xw_X12_twin_47, xw_X12_twin_71, xw_X12_twin_78, xw_X12_twin_84, xw_X12_twin_92, xw_X12_twin_94, zw_lit, xB_c, xB_s, xB_n, i1_c, j2_c, k1_c, jJ_e, xlg, xls, xla, xpd, ppush, zw_m1, zw_m2, zw_m3, gf_12_0, tg_12_0, gv_590_0, xD1, xD2, xD3, xD4, xD5, xD6, xb1_0, q1, q2, q3, z1] at g
            obtain ⟨m, hm, g⟩ := g
            obtain ⟨H', s2, g⟩ := ih m hm (i + 1) _ s H1 (by omega) (by omega) eA g
            exact ⟨H', SCm_trans sc s2, g⟩
    · have c' : A 0 ≤ i := by omega
      rw [show (A 0 - i).toNat = 0 by omega]
      by_cases w0 : w = 0
      · have hh := xw_top (hd := [27]) 12 xD6_ok xc_X12_twin xa_X12_twin (t := 27) rfl hh
        simp (maxDischargeDepth := 12) -implicitDefEqProofs [vb_X12_twin_0, vb_X12_twin_17, vb_X12_twin_19, vb_X12_twin_27, vb_X12_twin_47, vb_X12_twin_71, vb_X12_twin_78, vb_X12_twin_84, vb_X12_twin_92, vb_X12_twin_94, xI_0, xI_1, xI_3, xI_6, xI_7, xI_36, xI_37, xI_38, xI_43, xI_44, xI_45, xI_46, xI_49, xI_51, xI_60, xI_61, xI_62, xw_X12_twin_0, xw_X12_twin_17, xw_X12_twin_19, xw_X12_twin_27, xw_X12_twin_47, xw_X12_twin_71, xw_X12_twin_78, xw_X12_twin_84, xw_X12_twin_92, xw_X12_twin_94, zw_lit, xB_c, xB_s, xB_n, i1_c, j2_c, k1_c, jJ_e, xlg, xls, xla, xpd, ppush, zw_m1, zw_m2, zw_m3, gf_12_0, tg_12_0, gv_590_0, xD1, xD2, xD3, xD4, xD5, xD6, xb1_0, hA, c, c', w0] at hh
        rw [if_pos w0]
        exact ⟨H, SCm_refl, hh⟩
      · have hh := xw_top (hd := [27]) 12 xD6_ok xc_X12_twin xa_X12_twin (t := 27) rfl hh
        simp (maxDischargeDepth := 12) -implicitDefEqProofs [vb_X12_twin_0, vb_X12_twin_17, vb_X12_twin_19, vb_X12_twin_27, vb_X12_twin_47, vb_X12_twin_71, vb_X12_twin_78, vb_X12_twin_84, vb_X12_twin_92, vb_X12_twin_94, xI_0, xI_1, xI_3, xI_6, xI_7, xI_36, xI_37, xI_38, xI_43, xI_44, xI_45, xI_46, xI_49, xI_51, xI_60, xI_61, xI_62, xw_X12_twin_0, xw_X12_twin_17, xw_X12_twin_19, xw_X12_twin_27, xw_X12_twin_47, xw_X12_twin_71, xw_X12_twin_78, xw_X12_twin_84, xw_X12_twin_92, xw_X12_twin_94, zw_lit, xB_c, xB_s, xB_n, i1_c, j2_c, k1_c, jJ_e, xlg, xls, xla, xpd, ppush, zw_m1, zw_m2, zw_m3, gf_12_0, tg_12_0, gv_590_0, xD1, xD2, xD3, xD4, xD5, xD6, xb1_0, hA, c, c', w0] at hh
        rw [if_neg w0]
        exact ⟨H, SCm_refl, hh⟩
set_option maxRecDepth 100000 in
theorem sp_m_twin (b w : Int) (H : PH) (ok : OKR (H 591)) : SPEC 250 [(2, 590), (0, b), (0, w)] H (fun r H' => r = some (0, twQ (H 591) b w) ∧ MQs H H') := by
  intro E n' res h
  have a0 := ok.1.1
  have a2 := ok.1.2.2.1
  have os := ok.2.2.1
  unfold OKS at os
  have z0 : zw (H 591 0 - 1) = H 591 0 - 1 := zw_lit (by omega) (by omega)
  have z2 : zw (H 591 2 - 1) = H 591 2 - 1 := zw_lit (by omega) (by omega)
  by_cases qb : 0 ≤ b ∧ b ≤ H 591 0 - 1
  · have b0 := qb.1
    have b1 := qb.2
    have b2 : ¬ b < 0 := by omega
    have b3 : ¬ H 591 0 - 1 < b := by omega
    by_cases qw : 0 ≤ w ∧ w ≤ 1
    · have w0 := qw.1
      have w1 := qw.2
      have w2 : ¬ w < 0 := by omega
      have w3 : ¬ 1 < w := by omega
      have hq : (0 ≤ b ∧ b < H 591 0) ∧ (0 ≤ w ∧ w ≤ 1) := by omega
      have h := call_runP 7 vm_X12_twin h
      have h := xw_top (hd := [27]) 12 xD6_ok xc_X12_twin xa_X12_twin (t := 0) rfl h
      simp (maxDischargeDepth := 12) -implicitDefEqProofs [vb_X12_twin_0, vb_X12_twin_17, vb_X12_twin_19, vb_X12_twin_27, vb_X12_twin_47, vb_X12_twin_71, vb_X12_twin_78, vb_X12_twin_84, vb_X12_twin_92, vb_X12_twin_94, xI_0, xI_1, xI_3, xI_6, xI_7, xI_36, xI_37, xI_38, xI_43, xI_44, xI_45, xI_46, xI_49, xI_51, xI_60, xI_61, xI_62, xw_X12_twin_0, xw_X12_twin_17, xw_X12_twin_19, xw_X12_twin_27, xw_X12_twin_47, xw_X12_twin_71, xw_X12_twin_78, xw_X12_twin_84, xw_X12_twin_92, xw_X12_twin_94, zw_lit, xB_c, xB_s, xB_n, i1_c, j2_c, k1_c, jJ_e, xlg, xls, xla, xpd, ppush, zw_m1, zw_m2, zw_m3, gf_12_0, tg_12_0, gv_590_0, xD1, xD2, xD3, xD4, xD5, xD6, xb1_0, z0, b0, b1, b2, b3, w0, w1, w2, w3] at h
      obtain ⟨m, hm, g⟩ := h
      obtain ⟨H', sc, g⟩ := lp_mtw b w (H 591) ok.1 hq.1 qw m 0 _ (-1, -1) H (by omega) a0.1 rfl g
      rw [Int.sub_zero] at g
      exact ⟨_, H', g, by unfold twQ; rw [if_pos hq]; rfl, MQs_SC sc (by decide) (by decide)⟩
    · by_cases w0 : 0 ≤ w
      · have w1 : ¬ w ≤ 1 := by omega
        have w2 : ¬ w < 0 := by omega
        have w3 : 1 < w := by omega
        have h := call_runP 7 vm_X12_twin h
        have h := xw_top (hd := [27]) 12 xD6_ok xc_X12_twin xa_X12_twin (t := 0) rfl h
        simp (maxDischargeDepth := 12) -implicitDefEqProofs [vb_X12_twin_0, vb_X12_twin_17, vb_X12_twin_19, vb_X12_twin_27, vb_X12_twin_47, vb_X12_twin_71, vb_X12_twin_78, vb_X12_twin_84, vb_X12_twin_92, vb_X12_twin_94, xI_0, xI_1, xI_3, xI_6, xI_7, xI_36, xI_37, xI_38, xI_43, xI_44, xI_45, xI_46, xI_49, xI_51, xI_60, xI_61, xI_62, xw_X12_twin_0, xw_X12_twin_17, xw_X12_twin_19, xw_X12_twin_27, xw_X12_twin_47, xw_X12_twin_71, xw_X12_twin_78, xw_X12_twin_84, xw_X12_twin_92, xw_X12_twin_94, zw_lit, xB_c, xB_s, xB_n, i1_c, j2_c, k1_c, jJ_e, xlg, xls, xla, xpd, ppush, zw_m1, zw_m2, zw_m3, gf_12_0, tg_12_0, gv_590_0, xD1, xD2, xD3, xD4, xD5, xD6, xb1_0, z0, b0, b1, b2, b3, w0, w1, w2, w3] at h
        exact ⟨_, _, h, by unfold twQ; rw [if_neg (by omega)], MQs_refl⟩
      · have w2 : w < 0 := by omega
        have h := call_runP 7 vm_X12_twin h
        have h := xw_top (hd := [27]) 12 xD6_ok xc_X12_twin xa_X12_twin (t := 0) rfl h
        simp (maxDischargeDepth := 12) -implicitDefEqProofs [vb_X12_twin_0, vb_X12_twin_17, vb_X12_twin_19, vb_X12_twin_27, vb_X12_twin_47, vb_X12_twin_71, vb_X12_twin_78, vb_X12_twin_84, vb_X12_twin_92, vb_X12_twin_94, xI_0, xI_1, xI_3, xI_6, xI_7, xI_36, xI_37, xI_38, xI_43, xI_44, xI_45, xI_46, xI_49, xI_51, xI_60, xI_61, xI_62, xw_X12_twin_0, xw_X12_twin_17, xw_X12_twin_19, xw_X12_twin_27, xw_X12_twin_47, xw_X12_twin_71, xw_X12_twin_78, xw_X12_twin_84, xw_X12_twin_92, xw_X12_twin_94, zw_lit, xB_c, xB_s, xB_n, i1_c, j2_c, k1_c, jJ_e, xlg, xls, xla, xpd, ppush, zw_m1, zw_m2, zw_m3, gf_12_0, tg_12_0, gv_590_0, xD1, xD2, xD3, xD4, xD5, xD6, xb1_0, z0, b0, b1, b2, b3, w0, w2] at h
        exact ⟨_, _, h, by unfold twQ; rw [if_neg (by omega)], MQs_refl⟩
  · by_cases b0 : 0 ≤ b
    · have b1 : ¬ b ≤ H 591 0 - 1 := by omega
      have b2 : ¬ b < 0 := by omega
      have b3 : H 591 0 - 1 < b := by omega
      have h := call_runP 7 vm_X12_twin h
      have h := xw_top (hd := [27]) 12 xD6_ok xc_X12_twin xa_X12_twin (t := 0) rfl h
      simp (maxDischargeDepth := 12) -implicitDefEqProofs [vb_X12_twin_0, vb_X12_twin_17, vb_X12_twin_19, vb_X12_twin_27, vb_X12_twin_47, vb_X12_twin_71, vb_X12_twin_78, vb_X12_twin_84, vb_X12_twin_92, vb_X12_twin_94, xI_0, xI_1, xI_3, xI_6, xI_7, xI_36, xI_37, xI_38, xI_43, xI_44, xI_45, xI_46, xI_49, xI_51, xI_60, xI_61, xI_62, xw_X12_twin_0, xw_X12_twin_17, xw_X12_twin_19, xw_X12_twin_27, xw_X12_twin_47, xw_X12_twin_71, xw_X12_twin_78, xw_X12_twin_84, xw_X12_twin_92, xw_X12_twin_94, zw_lit, xB_c, xB_s, xB_n, i1_c, j2_c, k1_c, jJ_e, xlg, xls, xla, xpd, ppush, zw_m1, zw_m2, zw_m3, gf_12_0, tg_12_0, gv_590_0, xD1, xD2, xD3, xD4, xD5, xD6, xb1_0, z0, b0, b1, b2, b3] at h
      exact ⟨_, _, h, by unfold twQ; rw [if_neg (by omega)], MQs_refl⟩
    · have b2 : b < 0 := by omega
      have h := call_runP 7 vm_X12_twin h
      have h := xw_top (hd := [27]) 12 xD6_ok xc_X12_twin xa_X12_twin (t := 0) rfl h
      simp (maxDischargeDepth := 12) -implicitDefEqProofs [vb_X12_twin_0, vb_X12_twin_17, vb_X12_twin_19, vb_X12_twin_27, vb_X12_twin_47, vb_X12_twin_71, vb_X12_twin_78, vb_X12_twin_84, vb_X12_twin_92, vb_X12_twin_94, xI_0, xI_1, xI_3, xI_6, xI_7, xI_36, xI_37, xI_38, xI_43, xI_44, xI_45, xI_46, xI_49, xI_51, xI_60, xI_61, xI_62, xw_X12_twin_0, xw_X12_twin_17, xw_X12_twin_19, xw_X12_twin_27, xw_X12_twin_47, xw_X12_twin_71, xw_X12_twin_78, xw_X12_twin_84, xw_X12_twin_92, xw_X12_twin_94, zw_lit, xB_c, xB_s, xB_n, i1_c, j2_c, k1_c, jJ_e, xlg, xls, xla, xpd, ppush, zw_m1, zw_m2, zw_m3, gf_12_0, tg_12_0, gv_590_0, xD1, xD2, xD3, xD4, xD5, xD6, xb1_0, z0, b0, b2] at h
      exact ⟨_, _, h, by unfold twQ; rw [if_neg (by omega)], MQs_refl⟩
theorem pr_blame (u w : Int) (H : PH) (h : REL H) : PAIR 131 [(2, 0), (0, u), (0, w)] 246 [(2, 590), (0, u), (0, w)] H := by
  obtain ⟨⟨S, n, rl⟩, tp⟩ := h
  intro E N res hh
  obtain ⟨r, H1, g, rfl, cq⟩ := sp_c_blame u w S n H rl.2.1 rl.2.2.1 E N res hh
  refine ⟨_, H1, g, ⟨_, rfl⟩, ?_⟩
  obtain ⟨x1, x2, x3, x4, x5⟩ := RL_mid rl cq.2.2.1
  intro E N res hh
  obtain ⟨r', H2, g', rfl, mq⟩ := sp_m_blame u w H1 x4 E N res hh
  exact ⟨_, H2, g', by rw [x1], REL_MQ (REL_CQ rl tp cq) mq⟩
theorem pr_twin (b w : Int) (H : PH) (h : REL H) : PAIR 133 [(2, 0), (0, b), (0, w)] 250 [(2, 590), (0, b), (0, w)] H := by
  obtain ⟨⟨S, n, rl⟩, tp⟩ := h
  intro E N res hh
  obtain ⟨r, H1, g, rfl, cq⟩ := sp_c_twin b w S n H rl.2.1 rl.2.2.1 E N res hh
  refine ⟨_, H1, g, ⟨_, rfl⟩, ?_⟩
  obtain ⟨x1, x2, x3, x4, x5⟩ := RL_mid rl cq.2.2.1
  intro E N res hh
  obtain ⟨r', H2, g', rfl, mq⟩ := sp_m_twin b w H1 x4 E N res hh
  exact ⟨_, H2, g', by rw [x1], REL_MQ (REL_CQ rl tp cq) mq⟩
