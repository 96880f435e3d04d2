theorem gf_12_43 : gfOK 12 43 = true := by decide +kernel
def xm_X8_wearAt : List xbT := [(0, vb_X8_wearAt_0, none)]
theorem xc_X8_wearAt : xOK kd_X8_wearAt xm_X8_wearAt := ⟨ve_X8_wearAt_0, trivial⟩
theorem xa_X8_wearAt : xm_X8_wearAt.all (fun q => aOKb q.2.1 && !q.2.1.isEmpty) = true := by decide +kernel
theorem xw_X8_wearAt_0 {E : xE} {res : xR} {N : Nat} {hd : List Nat} {C : xCT} {k : Nat} {L : List Int} {st : List pv} {H : PH} : xW E res N kd_X8_wearAt xm_X8_wearAt hd C (k + 1) 0 L st H = xB (fun t L st H => if t ∈ hd then xJ E res N kd_X8_wearAt t L st H else xW E res N kd_X8_wearAt xm_X8_wearAt hd C k t L st H) (REPR E res) C (none) vb_X8_wearAt_0 0 L st H := Eq.trans rfl rfl
def xm_X1_readSeen : List xbT := [(0, vb_X1_readSeen_0, some 2), (2, vb_X1_readSeen_2, some 39), (39, vb_X1_readSeen_39, none)]
theorem xc_X1_readSeen : xOK kd_X1_readSeen xm_X1_readSeen := ⟨ve_X1_readSeen_0, ve_X1_readSeen_2, ve_X1_readSeen_39, trivial⟩
theorem xa_X1_readSeen : xm_X1_readSeen.all (fun q => aOKb q.2.1 && !q.2.1.isEmpty) = true := by decide +kernel
theorem xw_X1_readSeen_0 {E : xE} {res : xR} {N : Nat} {hd : List Nat} {C : xCT} {k : Nat} {L : List Int} {st : List pv} {H : PH} : xW E res N kd_X1_readSeen xm_X1_readSeen hd C (k + 1) 0 L st H = xB (fun t L st H => if t ∈ hd then xJ E res N kd_X1_readSeen t L st H else xW E res N kd_X1_readSeen xm_X1_readSeen hd C k t L st H) (REPR E res) C (some 2) vb_X1_readSeen_0 0 L st H := Eq.trans rfl rfl
theorem xw_X1_readSeen_2 {E : xE} {res : xR} {N : Nat} {hd : List Nat} {C : xCT} {k : Nat} {L : List Int} {st : List pv} {H : PH} : xW E res N kd_X1_readSeen xm_X1_readSeen hd C (k + 1) 2 L st H = xB (fun t L st H => if t ∈ hd then xJ E res N kd_X1_readSeen t L st H else xW E res N kd_X1_readSeen xm_X1_readSeen hd C k t L st H) (REPR E res) C (some 39) vb_X1_readSeen_2 2 L st H := Eq.trans rfl rfl
theorem xw_X1_readSeen_39 {E : xE} {res : xR} {N : Nat} {hd : List Nat} {C : xCT} {k : Nat} {L : List Int} {st : List pv} {H : PH} : xW E res N kd_X1_readSeen xm_X1_readSeen hd C (k + 1) 39 L st H = xB (fun t L st H => if t ∈ hd then xJ E res N kd_X1_readSeen t L st H else xW E res N kd_X1_readSeen xm_X1_readSeen hd C k t L st H) (REPR E res) C (none) vb_X1_readSeen_39 39 L st H := Eq.trans rfl rfl
def xm_X11_worn : List xbT := [(0, vb_X11_worn_0, some 17), (17, vb_X11_worn_17, some 20), (20, vb_X11_worn_20, some 42), (42, vb_X11_worn_42, some 78), (78, vb_X11_worn_78, some 80), (80, vb_X11_worn_80, some 85), (85, vb_X11_worn_85, some 91), (91, vb_X11_worn_91, some 100), (100, vb_X11_worn_100, some 102), (102, vb_X11_worn_102, none)]
theorem xc_X11_worn : xOK kd_X11_worn xm_X11_worn := ⟨ve_X11_worn_0, ve_X11_worn_17, ve_X11_worn_20, ve_X11_worn_42, ve_X11_worn_78, ve_X11_worn_80, ve_X11_worn_85, ve_X11_worn_91, ve_X11_worn_100, ve_X11_worn_102, trivial⟩
theorem xa_X11_worn : xm_X11_worn.all (fun q => aOKb q.2.1 && !q.2.1.isEmpty) = true := by decide +kernel
theorem xw_X11_worn_0 {E : xE} {res : xR} {N : Nat} {hd : List Nat} {C : xCT} {k : Nat} {L : List Int} {st : List pv} {H : PH} : xW E res N kd_X11_worn xm_X11_worn hd C (k + 1) 0 L st H = xB (fun t L st H => if t ∈ hd then xJ E res N kd_X11_worn t L st H else xW E res N kd_X11_worn xm_X11_worn hd C k t L st H) (REPR E res) C (some 17) vb_X11_worn_0 0 L st H := Eq.trans rfl rfl
theorem xw_X11_worn_17 {E : xE} {res : xR} {N : Nat} {hd : List Nat} {C : xCT} {k : Nat} {L : List Int} {st : List pv} {H : PH} : xW E res N kd_X11_worn xm_X11_worn hd C (k + 1) 17 L st H = xB (fun t L st H => if t ∈ hd then xJ E res N kd_X11_worn t L st H else xW E res N kd_X11_worn xm_X11_worn hd C k t L st H) (REPR E res) C (some 20) vb_X11_worn_17 17 L st H := Eq.trans rfl rfl
theorem xw_X11_worn_20 {E : xE} {res : xR} {N : Nat} {hd : List Nat} {C : xCT} {k : Nat} {L : List Int} {st : List pv} {H : PH} : xW E res N kd_X11_worn xm_X11_worn hd C (k + 1) 20 L st H = xB (fun t L st H => if t ∈ hd then xJ E res N kd_X11_worn t L st H else xW E res N kd_X11_worn xm_X11_worn hd C k t L st H) (REPR E res) C (some 42) vb_X11_worn_20 20 L st H := Eq.trans rfl rfl
theorem xw_X11_worn_42 {E : xE} {res : xR} {N : Nat} {hd : List Nat} {C : xCT} {k : Nat} {L : List Int} {st : List pv} {H : PH} : xW E res N kd_X11_worn xm_X11_worn hd C (k + 1) 42 L st H = xB (fun t L st H => if t ∈ hd then xJ E res N kd_X11_worn t L st H else xW E res N kd_X11_worn xm_X11_worn hd C k t L st H) (REPR E res) C (some 78) vb_X11_worn_42 42 L st H := Eq.trans rfl rfl
theorem xw_X11_worn_78 {E : xE} {res : xR} {N : Nat} {hd : List Nat} {C : xCT} {k : Nat} {L : List Int} {st : List pv} {H : PH} : xW E res N kd_X11_worn xm_X11_worn hd C (k + 1) 78 L st H = xB (fun t L st H => if t ∈ hd then xJ E res N kd_X11_worn t L st H else xW E res N kd_X11_worn xm_X11_worn hd C k t L st H) (REPR E res) C (some 80) vb_X11_worn_78 78 L st H := Eq.trans rfl rfl
theorem xw_X11_worn_80 {E : xE} {res : xR} {N : Nat} {hd : List Nat} {C : xCT} {k : Nat} {L : List Int} {st : List pv} {H : PH} : xW E res N kd_X11_worn xm_X11_worn hd C (k + 1) 80 L st H = xB (fun t L st H => if t ∈ hd then xJ E res N kd_X11_worn t L st H else xW E res N kd_X11_worn xm_X11_worn hd C k t L st H) (REPR E res) C (some 85) vb_X11_worn_80 80 L st H := Eq.trans rfl rfl
theorem xw_X11_worn_85 {E : xE} {res : xR} {N : Nat} {hd : List Nat} {C : xCT} {k : Nat} {L : List Int} {st : List pv} {H : PH} : xW E res N kd_X11_worn xm_X11_worn hd C (k + 1) 85 L st H = xB (fun t L st H => if t ∈ hd then xJ E res N kd_X11_worn t L st H else xW E res N kd_X11_worn xm_X11_worn hd C k t L st H) (REPR E res) C (some 91) vb_X11_worn_85 85 L st H := Eq.trans rfl rfl
theorem xw_X11_worn_91 {E : xE} {res : xR} {N : Nat} {hd : List Nat} {C : xCT} {k : Nat} {L : List Int} {st : List pv} {H : PH} : xW E res N kd_X11_worn xm_X11_worn hd C (k + 1) 91 L st H = xB (fun t L st H => if t ∈ hd then xJ E res N kd_X11_worn t L st H else xW E res N kd_X11_worn xm_X11_worn hd C k t L st H) (REPR E res) C (some 100) vb_X11_worn_91 91 L st H := Eq.trans rfl rfl
theorem xw_X11_worn_100 {E : xE} {res : xR} {N : Nat} {hd : List Nat} {C : xCT} {k : Nat} {L : List Int} {st : List pv} {H : PH} : xW E res N kd_X11_worn xm_X11_worn hd C (k + 1) 100 L st H = xB (fun t L st H => if t ∈ hd then xJ E res N kd_X11_worn t L st H else xW E res N kd_X11_worn xm_X11_worn hd C k t L st H) (REPR E res) C (some 102) vb_X11_worn_100 100 L st H := Eq.trans rfl rfl
theorem xw_X11_worn_102 {E : xE} {res : xR} {N : Nat} {hd : List Nat} {C : xCT} {k : Nat} {L : List Int} {st : List pv} {H : PH} : xW E res N kd_X11_worn xm_X11_worn hd C (k + 1) 102 L st H = xB (fun t L st H => if t ∈ hd then xJ E res N kd_X11_worn t L st H else xW E res N kd_X11_worn xm_X11_worn hd C k t L st H) (REPR E res) C (none) vb_X11_worn_102 102 L st H := Eq.trans rfl rfl
def xm_X12_spareApart : List xbT := [(0, vb_X12_spareApart_0, some 20), (20, vb_X12_spareApart_20, some 44), (44, vb_X12_spareApart_44, some 47), (47, vb_X12_spareApart_47, some 76), (76, vb_X12_spareApart_76, some 97), (97, vb_X12_spareApart_97, some 104), (104, vb_X12_spareApart_104, some 174), (174, vb_X12_spareApart_174, some 180), (180, vb_X12_spareApart_180, none)]
theorem xc_X12_spareApart : xOK kd_X12_spareApart xm_X12_spareApart := ⟨ve_X12_spareApart_0, ve_X12_spareApart_20, ve_X12_spareApart_44, ve_X12_spareApart_47, ve_X12_spareApart_76, ve_X12_spareApart_97, ve_X12_spareApart_104, ve_X12_spareApart_174, ve_X12_spareApart_180, trivial⟩
theorem xa_X12_spareApart : xm_X12_spareApart.all (fun q => aOKb q.2.1 && !q.2.1.isEmpty) = true := by decide +kernel
theorem xw_X12_spareApart_0 {E : xE} {res : xR} {N : Nat} {hd : List Nat} {C : xCT} {k : Nat} {L : List Int} {st : List pv} {H : PH} : xW E res N kd_X12_spareApart xm_X12_spareApart hd C (k + 1) 0 L st H = xB (fun t L st H => if t ∈ hd then xJ E res N kd_X12_spareApart t L st H else xW E res N kd_X12_spareApart xm_X12_spareApart hd C k t L st H) (REPR E res) C (some 20) vb_X12_spareApart_0 0 L st H := Eq.trans rfl rfl
theorem xw_X12_spareApart_20 {E : xE} {res : xR} {N : Nat} {hd : List Nat} {C : xCT} {k : Nat} {L : List Int} {st : List pv} {H : PH} : xW E res N kd_X12_spareApart xm_X12_spareApart hd C (k + 1) 20 L st H = xB (fun t L st H => if t ∈ hd then xJ E res N kd_X12_spareApart t L st H else xW E res N kd_X12_spareApart xm_X12_spareApart hd C k t L st H) (REPR E res) C (some 44) vb_X12_spareApart_20 20 L st H := Eq.trans rfl rfl
theorem xw_X12_spareApart_44 {E : xE} {res : xR} {N : Nat} {hd : List Nat} {C : xCT} {k : Nat} {L : List Int} {st : List pv} {H : PH} : xW E res N kd_X12_spareApart xm_X12_spareApart hd C (k + 1) 44 L st H = xB (fun t L st H => if t ∈ hd then xJ E res N kd_X12_spareApart t L st H else xW E res N kd_X12_spareApart xm_X12_spareApart hd C k t L st H) (REPR E res) C (some 47) vb_X12_spareApart_44 44 L st H := Eq.trans rfl rfl
theorem xw_X12_spareApart_47 {E : xE} {res : xR} {N : Nat} {hd : List Nat} {C : xCT} {k : Nat} {L : List Int} {st : List pv} {H : PH} : xW E res N kd_X12_spareApart xm_X12_spareApart hd C (k + 1) 47 L st H = xB (fun t L st H => if t ∈ hd then xJ E res N kd_X12_spareApart t L st H else xW E res N kd_X12_spareApart xm_X12_spareApart hd C k t L st H) (REPR E res) C (some 76) vb_X12_spareApart_47 47 L st H := Eq.trans rfl rfl
theorem xw_X12_spareApart_76 {E : xE} {res : xR} {N : Nat} {hd : List Nat} {C : xCT} {k : Nat} {L : List Int} {st : List pv} {H : PH} : xW E res N kd_X12_spareApart xm_X12_spareApart hd C (k + 1) 76 L st H = xB (fun t L st H => if t ∈ hd then xJ E res N kd_X12_spareApart t L st H else xW E res N kd_X12_spareApart xm_X12_spareApart hd C k t L st H) (REPR E res) C (some 97) vb_X12_spareApart_76 76 L st H := Eq.trans rfl rfl
theorem xw_X12_spareApart_97 {E : xE} {res : xR} {N : Nat} {hd : List Nat} {C : xCT} {k : Nat} {L : List Int} {st : List pv} {H : PH} : xW E res N kd_X12_spareApart xm_X12_spareApart hd C (k + 1) 97 L st H = xB (fun t L st H => if t ∈ hd then xJ E res N kd_X12_spareApart t L st H else xW E res N kd_X12_spareApart xm_X12_spareApart hd C k t L st H) (REPR E res) C (some 104) vb_X12_spareApart_97 97 L st H := Eq.trans rfl rfl
theorem xw_X12_spareApart_104 {E : xE} {res : xR} {N : Nat} {hd : List Nat} {C : xCT} {k : Nat} {L : List Int} {st : List pv} {H : PH} : xW E res N kd_X12_spareApart xm_X12_spareApart hd C (k + 1) 104 L st H = xB (fun t L st H => if t ∈ hd then xJ E res N kd_X12_spareApart t L st H else xW E res N kd_X12_spareApart xm_X12_spareApart hd C k t L st H) (REPR E res) C (some 174) vb_X12_spareApart_104 104 L st H := Eq.trans rfl rfl
theorem xw_X12_spareApart_174 {E : xE} {res : xR} {N : Nat} {hd : List Nat} {C : xCT} {k : Nat} {L : List Int} {st : List pv} {H : PH} : xW E res N kd_X12_spareApart xm_X12_spareApart hd C (k + 1) 174 L st H = xB (fun t L st H => if t ∈ hd then xJ E res N kd_X12_spareApart t L st H else xW E res N kd_X12_spareApart xm_X12_spareApart hd C k t L st H) (REPR E res) C (some 180) vb_X12_spareApart_174 174 L st H := Eq.trans rfl rfl
theorem xw_X12_spareApart_180 {E : xE} {res : xR} {N : Nat} {hd : List Nat} {C : xCT} {k : Nat} {L : List Int} {st : List pv} {H : PH} : xW E res N kd_X12_spareApart xm_X12_spareApart hd C (k + 1) 180 L st H = xB (fun t L st H => if t ∈ hd then xJ E res N kd_X12_spareApart t L st H else xW E res N kd_X12_spareApart xm_X12_spareApart hd C k t L st H) (REPR E res) C (none) vb_X12_spareApart_180 180 L st H := Eq.trans rfl rfl
def xm_X12_readSpare : List xbT := [(0, vb_X12_readSpare_0, some 11), (11, vb_X12_readSpare_11, some 46), (46, vb_X12_readSpare_46, some 64), (64, vb_X12_readSpare_64, some 65), (65, vb_X12_readSpare_65, some 78), (78, vb_X12_readSpare_78, some 80), (80, vb_X12_readSpare_80, some 85), (85, vb_X12_readSpare_85, some 91), (91, vb_X12_readSpare_91, some 112), (112, vb_X12_readSpare_112, some 113), (113, vb_X12_readSpare_113, none)]
theorem xc_X12_readSpare : xOK kd_X12_readSpare xm_X12_readSpare := ⟨ve_X12_readSpare_0, ve_X12_readSpare_11, ve_X12_readSpare_46, ve_X12_readSpare_64, ve_X12_readSpare_65, ve_X12_readSpare_78, ve_X12_readSpare_80, ve_X12_readSpare_85, ve_X12_readSpare_91, ve_X12_readSpare_112, ve_X12_readSpare_113, trivial⟩
theorem xa_X12_readSpare : xm_X12_readSpare.all (fun q => aOKb q.2.1 && !q.2.1.isEmpty) = true := by decide +kernel
theorem xw_X12_readSpare_0 {E : xE} {res : xR} {N : Nat} {hd : List Nat} {C : xCT} {k : Nat} {L : List Int} {st : List pv} {H : PH} : xW E res N kd_X12_readSpare xm_X12_readSpare hd C (k + 1) 0 L st H = xB (fun t L st H => if t ∈ hd then xJ E res N kd_X12_readSpare t L st H else xW E res N kd_X12_readSpare xm_X12_readSpare hd C k t L st H) (REPR E res) C (some 11) vb_X12_readSpare_0 0 L st H := Eq.trans rfl rfl
theorem xw_X12_readSpare_11 {E : xE} {res : xR} {N : Nat} {hd : List Nat} {C : xCT} {k : Nat} {L : List Int} {st : List pv} {H : PH} : xW E res N kd_X12_readSpare xm_X12_readSpare hd C (k + 1) 11 L st H = xB (fun t L st H => if t ∈ hd then xJ E res N kd_X12_readSpare t L st H else xW E res N kd_X12_readSpare xm_X12_readSpare hd C k t L st H) (REPR E res) C (some 46) vb_X12_readSpare_11 11 L st H := Eq.trans rfl rfl
theorem xw_X12_readSpare_46 {E : xE} {res : xR} {N : Nat} {hd : List Nat} {C : xCT} {k : Nat} {L : List Int} {st : List pv} {H : PH} : xW E res N kd_X12_readSpare xm_X12_readSpare hd C (k + 1) 46 L st H = xB (fun t L st H => if t ∈ hd then xJ E res N kd_X12_readSpare t L st H else xW E res N kd_X12_readSpare xm_X12_readSpare hd C k t L st H) (REPR E res) C (some 64) vb_X12_readSpare_46 46 L st H := Eq.trans rfl rfl
theorem xw_X12_readSpare_64 {E : xE} {res : xR} {N : Nat} {hd : List Nat} {C : xCT} {k : Nat} {L : List Int} {st : List pv} {H : PH} : xW E res N kd_X12_readSpare xm_X12_readSpare hd C (k + 1) 64 L st H = xB (fun t L st H => if t ∈ hd then xJ E res N kd_X12_readSpare t L st H else xW E res N kd_X12_readSpare xm_X12_readSpare hd C k t L st H) (REPR E res) C (some 65) vb_X12_readSpare_64 64 L st H := Eq.trans rfl rfl
theorem xw_X12_readSpare_65 {E : xE} {res : xR} {N : Nat} {hd : List Nat} {C : xCT} {k : Nat} {L : List Int} {st : List pv} {H : PH} : xW E res N kd_X12_readSpare xm_X12_readSpare hd C (k + 1) 65 L st H = xB (fun t L st H => if t ∈ hd then xJ E res N kd_X12_readSpare t L st H else xW E res N kd_X12_readSpare xm_X12_readSpare hd C k t L st H) (REPR E res) C (some 78) vb_X12_readSpare_65 65 L st H := Eq.trans rfl rfl
theorem xw_X12_readSpare_78 {E : xE} {res : xR} {N : Nat} {hd : List Nat} {C : xCT} {k : Nat} {L : List Int} {st : List pv} {H : PH} : xW E res N kd_X12_readSpare xm_X12_readSpare hd C (k + 1) 78 L st H = xB (fun t L st H => if t ∈ hd then xJ E res N kd_X12_readSpare t L st H else xW E res N kd_X12_readSpare xm_X12_readSpare hd C k t L st H) (REPR E res) C (some 80) vb_X12_readSpare_78 78 L st H := Eq.trans rfl rfl
theorem xw_X12_readSpare_80 {E : xE} {res : xR} {N : Nat} {hd : List Nat} {C : xCT} {k : Nat} {L : List Int} {st : List pv} {H : PH} : xW E res N kd_X12_readSpare xm_X12_readSpare hd C (k + 1) 80 L st H = xB (fun t L st H => if t ∈ hd then xJ E res N kd_X12_readSpare t L st H else xW E res N kd_X12_readSpare xm_X12_readSpare hd C k t L st H) (REPR E res) C (some 85) vb_X12_readSpare_80 80 L st H := Eq.trans rfl rfl
theorem xw_X12_readSpare_85 {E : xE} {res : xR} {N : Nat} {hd : List Nat} {C : xCT} {k : Nat} {L : List Int} {st : List pv} {H : PH} : xW E res N kd_X12_readSpare xm_X12_readSpare hd C (k + 1) 85 L st H = xB (fun t L st H => if t ∈ hd then xJ E res N kd_X12_readSpare t L st H else xW E res N kd_X12_readSpare xm_X12_readSpare hd C k t L st H) (REPR E res) C (some 91) vb_X12_readSpare_85 85 L st H := Eq.trans rfl rfl
theorem xw_X12_readSpare_91 {E : xE} {res : xR} {N : Nat} {hd : List Nat} {C : xCT} {k : Nat} {L : List Int} {st : List pv} {H : PH} : xW E res N kd_X12_readSpare xm_X12_readSpare hd C (k + 1) 91 L st H = xB (fun t L st H => if t ∈ hd then xJ E res N kd_X12_readSpare t L st H else xW E res N kd_X12_readSpare xm_X12_readSpare hd C k t L st H) (REPR E res) C (some 112) vb_X12_readSpare_91 91 L st H := Eq.trans rfl rfl
theorem xw_X12_readSpare_112 {E : xE} {res : xR} {N : Nat} {hd : List Nat} {C : xCT} {k : Nat} {L : List Int} {st : List pv} {H : PH} : xW E res N kd_X12_readSpare xm_X12_readSpare hd C (k + 1) 112 L st H = xB (fun t L st H => if t ∈ hd then xJ E res N kd_X12_readSpare t L st H else xW E res N kd_X12_readSpare xm_X12_readSpare hd C k t L st H) (REPR E res) C (some 113) vb_X12_readSpare_112 112 L st H := Eq.trans rfl rfl
theorem xw_X12_readSpare_113 {E : xE} {res : xR} {N : Nat} {hd : List Nat} {C : xCT} {k : Nat} {L : List Int} {st : List pv} {H : PH} : xW E res N kd_X12_readSpare xm_X12_readSpare hd C (k + 1) 113 L st H = xB (fun t L st H => if t ∈ hd then xJ E res N kd_X12_readSpare t L st H else xW E res N kd_X12_readSpare xm_X12_readSpare hd C k t L st H) (REPR E res) C (none) vb_X12_readSpare_113 113 L st H := Eq.trans rfl rfl
def xm_X12_worn : List xbT := [(0, vb_X12_worn_0, some 17), (17, vb_X12_worn_17, some 20), (20, vb_X12_worn_20, some 34), (34, vb_X12_worn_34, some 50), (50, vb_X12_worn_50, some 87), (87, vb_X12_worn_87, some 108), (108, vb_X12_worn_108, some 122), (122, vb_X12_worn_122, some 124), (124, vb_X12_worn_124, some 126), (126, vb_X12_worn_126, some 132), (132, vb_X12_worn_132, some 141), (141, vb_X12_worn_141, some 143), (143, vb_X12_worn_143, none)]
theorem xc_X12_worn : xOK kd_X12_worn xm_X12_worn := ⟨ve_X12_worn_0, ve_X12_worn_17, ve_X12_worn_20, ve_X12_worn_34, ve_X12_worn_50, ve_X12_worn_87, ve_X12_worn_108, ve_X12_worn_122, ve_X12_worn_124, ve_X12_worn_126, ve_X12_worn_132, ve_X12_worn_141, ve_X12_worn_143, trivial⟩
theorem xa_X12_worn : xm_X12_worn.all (fun q => aOKb q.2.1 && !q.2.1.isEmpty) = true := by decide +kernel
theorem xw_X12_worn_0 {E : xE} {res : xR} {N : Nat} {hd : List Nat} {C : xCT} {k : Nat} {L : List Int} {st : List pv} {H : PH} : xW E res N kd_X12_worn xm_X12_worn hd C (k + 1) 0 L st H = xB (fun t L st H => if t ∈ hd then xJ E res N kd_X12_worn t L st H else xW E res N kd_X12_worn xm_X12_worn hd C k t L st H) (REPR E res) C (some 17) vb_X12_worn_0 0 L st H := Eq.trans rfl rfl
theorem xw_X12_worn_17 {E : xE} {res : xR} {N : Nat} {hd : List Nat} {C : xCT} {k : Nat} {L : List Int} {st : List pv} {H : PH} : xW E res N kd_X12_worn xm_X12_worn hd C (k + 1) 17 L st H = xB (fun t L st H => if t ∈ hd then xJ E res N kd_X12_worn t L st H else xW E res N kd_X12_worn xm_X12_worn hd C k t L st H) (REPR E res) C (some 20) vb_X12_worn_17 17 L st H := Eq.trans rfl rfl
theorem xw_X12_worn_20 {E : xE} {res : xR} {N : Nat} {hd : List Nat} {C : xCT} {k : Nat} {L : List Int} {st : List pv} {H : PH} : xW E res N kd_X12_worn xm_X12_worn hd C (k + 1) 20 L st H = xB (fun t L st H => if t ∈ hd then xJ E res N kd_X12_worn t L st H else xW E res N kd_X12_worn xm_X12_worn hd C k t L st H) (REPR E res) C (some 34) vb_X12_worn_20 20 L st H := Eq.trans rfl rfl
theorem xw_X12_worn_34 {E : xE} {res : xR} {N : Nat} {hd : List Nat} {C : xCT} {k : Nat} {L : List Int} {st : List pv} {H : PH} : xW E res N kd_X12_worn xm_X12_worn hd C (k + 1) 34 L st H = xB (fun t L st H => if t ∈ hd then xJ E res N kd_X12_worn t L st H else xW E res N kd_X12_worn xm_X12_worn hd C k t L st H) (REPR E res) C (some 50) vb_X12_worn_34 34 L st H := Eq.trans rfl rfl
theorem xw_X12_worn_50 {E : xE} {res : xR} {N : Nat} {hd : List Nat} {C : xCT} {k : Nat} {L : List Int} {st : List pv} {H : PH} : xW E res N kd_X12_worn xm_X12_worn hd C (k + 1) 50 L st H = xB (fun t L st H => if t ∈ hd then xJ E res N kd_X12_worn t L st H else xW E res N kd_X12_worn xm_X12_worn hd C k t L st H) (REPR E res) C (some 87) vb_X12_worn_50 50 L st H := Eq.trans rfl rfl
theorem xw_X12_worn_87 {E : xE} {res : xR} {N : Nat} {hd : List Nat} {C : xCT} {k : Nat} {L : List Int} {st : List pv} {H : PH} : xW E res N kd_X12_worn xm_X12_worn hd C (k + 1) 87 L st H = xB (fun t L st H => if t ∈ hd then xJ E res N kd_X12_worn t L st H else xW E res N kd_X12_worn xm_X12_worn hd C k t L st H) (REPR E res) C (some 108) vb_X12_worn_87 87 L st H := Eq.trans rfl rfl
theorem xw_X12_worn_108 {E : xE} {res : xR} {N : Nat} {hd : List Nat} {C : xCT} {k : Nat} {L : List Int} {st : List pv} {H : PH} : xW E res N kd_X12_worn xm_X12_worn hd C (k + 1) 108 L st H = xB (fun t L st H => if t ∈ hd then xJ E res N kd_X12_worn t L st H else xW E res N kd_X12_worn xm_X12_worn hd C k t L st H) (REPR E res) C (some 122) vb_X12_worn_108 108 L st H := Eq.trans rfl rfl
theorem xw_X12_worn_122 {E : xE} {res : xR} {N : Nat} {hd : List Nat} {C : xCT} {k : Nat} {L : List Int} {st : List pv} {H : PH} : xW E res N kd_X12_worn xm_X12_worn hd C (k + 1) 122 L st H = xB (fun t L st H => if t ∈ hd then xJ E res N kd_X12_worn t L st H else xW E res N kd_X12_worn xm_X12_worn hd C k t L st H) (REPR E res) C (some 124) vb_X12_worn_122 122 L st H := Eq.trans rfl rfl
theorem xw_X12_worn_124 {E : xE} {res : xR} {N : Nat} {hd : List Nat} {C : xCT} {k : Nat} {L : List Int} {st : List pv} {H : PH} : xW E res N kd_X12_worn xm_X12_worn hd C (k + 1) 124 L st H = xB (fun t L st H => if t ∈ hd then xJ E res N kd_X12_worn t L st H else xW E res N kd_X12_worn xm_X12_worn hd C k t L st H) (REPR E res) C (some 126) vb_X12_worn_124 124 L st H := Eq.trans rfl rfl
theorem xw_X12_worn_126 {E : xE} {res : xR} {N : Nat} {hd : List Nat} {C : xCT} {k : Nat} {L : List Int} {st : List pv} {H : PH} : xW E res N kd_X12_worn xm_X12_worn hd C (k + 1) 126 L st H = xB (fun t L st H => if t ∈ hd then xJ E res N kd_X12_worn t L st H else xW E res N kd_X12_worn xm_X12_worn hd C k t L st H) (REPR E res) C (some 132) vb_X12_worn_126 126 L st H := Eq.trans rfl rfl
theorem xw_X12_worn_132 {E : xE} {res : xR} {N : Nat} {hd : List Nat} {C : xCT} {k : Nat} {L : List Int} {st : List pv} {H : PH} : xW E res N kd_X12_worn xm_X12_worn hd C (k + 1) 132 L st H = xB (fun t L st H => if t ∈ hd then xJ E res N kd_X12_worn t L st H else xW E res N kd_X12_worn xm_X12_worn hd C k t L st H) (REPR E res) C (some 141) vb_X12_worn_132 132 L st H := Eq.trans rfl rfl
theorem xw_X12_worn_141 {E : xE} {res : xR} {N : Nat} {hd : List Nat} {C : xCT} {k : Nat} {L : List Int} {st : List pv} {H : PH} : xW E res N kd_X12_worn xm_X12_worn hd C (k + 1) 141 L st H = xB (fun t L st H => if t ∈ hd then xJ E res N kd_X12_worn t L st H else xW E res N kd_X12_worn xm_X12_worn hd C k t L st H) (REPR E res) C (some 143) vb_X12_worn_141 141 L st H := Eq.trans rfl rfl
theorem xw_X12_worn_143 {E : xE} {res : xR} {N : Nat} {hd : List Nat} {C : xCT} {k : Nat} {L : List Int} {st : List pv} {H : PH} : xW E res N kd_X12_worn xm_X12_worn hd C (k + 1) 143 L st H = xB (fun t L st H => if t ∈ hd then xJ E res N kd_X12_worn t L st H else xW E res N kd_X12_worn xm_X12_worn hd C k t L st H) (REPR E res) C (none) vb_X12_worn_143 143 L st H := Eq.trans rfl rfl
/-! ===== one sign more worn: both sides ===== -/
/-- a row of signs against a bill's mark -/
def wnA (A : Int → Int) (f : Int → Int) (n x : Int) : Int := apF (fun p q => chA A (f p) (A (92 + 26 * x + 1 + q))) n (A (92 + 26 * x))
def wrf (A : Int → Int) (b i : Int) : Int → Int := fun j => if j = i then 46 else A (92 + 26 * b + 1 + j)
abbrev wrC (A : Int → Int) (b i : Int) : Prop := ¬ rdM (wnA A (wrf A b i) (A (92 + 26 * b))) (A 0) (A 3) = b
def wrS (A : Int → Int) (b i : Int) (s : Int × Int) : Int × Int := if wrC A b i then (s.1 + 1, if s.1 = 0 then i else s.2) else s
def wrF (A : Int → Int) (b : Int) : Nat → Int → Int × Int → Int × Int
  | 0, _, s => s
  | n + 1, i, s => wrF A b n (i + 1) (wrS A b i s)
def wrZ (A : Int → Int) (b : Int) : Int × Int := wrF A b (A (92 + 26 * b)).toNat 0 (0, -1)
def wrQ (A : Int → Int) (b w : Int) : Int := if (0 ≤ b ∧ b < A 0) ∧ (0 ≤ w ∧ w ≤ 1) then (if w = 0 then (wrZ A b).1 else (wrZ A b).2) else -2
theorem mkS_up (g : Int → Int) (i : Nat) (v : Int) : ∀ n : Nat, i < n → mkS (xup g i v) n = mkS g n + (v - g i) * 64 ^ i
  | 0, h => absurd h (Nat.not_lt_zero _)
  | n + 1, h => by
    unfold mkS
    by_cases e : i = n
    · have e1 : mkS (xup g i v) n = mkS g n := mkS_eq n (fun j hj => xup_n (by omega))
      have e2 : xup g i v n = v := by rw [← e]; exact xup_a
      rw [e1, e2, e, Int.sub_mul]
      omega
    · rw [mkS_up g i v n (by omega), xup_n (by omega)]
      omega
theorem wear_VM {m n i : Int} {f : Int → Int} (vm : VM m n f) (hi : 0 ≤ i ∧ i < n) : VM (m + (37 - sgf m i) * 64 ^ i.toNat) n (fun j => if j = i then 46 else f j) := by
  obtain ⟨v1, v2, v3, v4⟩ := vm
  have hn : ((n.toNat : Nat) : Int) = n := by omega
  have hi2 : ((i.toNat : Nat) : Int) = i := by omega
  have u := mkS_up (sgf m) i.toNat 37 n.toNat (by omega)
  rw [hi2] at u
  have w := mk_VM (g := xup (sgf m) i 37) (f := fun j => if j = i then 46 else f j) (n := n.toNat) (by omega) (fun j j0 j1 => by
    rw [hn] at j1
    unfold xup
    by_cases e : j = i
    · rw [if_pos e]
      exact ⟨by decide, by decide, by rw [if_pos e]; decide⟩
    · rw [if_neg e]
      obtain ⟨a, b, c⟩ := v3 j j0 j1
      exact ⟨a, b, by rw [if_neg e]; exact c⟩)
  rw [hn, u] at w
  have e : m + (37 - sgf m i) * 64 ^ i.toNat = mkS (sgf m) n.toNat + (37 - sgf m i) * 64 ^ i.toNat + n * 281474976710656 := by
    have := v4
    omega
  rw [e]
  exact w
set_option maxRecDepth 100000 in
theorem sp_X8_wearAt (m n i : Int) (f : Int → Int) (H : PH) (vm : VM m n f) (hi : 0 ≤ i ∧ i < n) : SPEC 79 [(1, m), (0, i)] H (fun r H' => r = some (1, m + (37 - sgf m i) * 64 ^ i.toNat) ∧ H' = H) := by
  intro E N res h
  obtain ⟨r0, r1⟩ := VM_rng vm
  obtain ⟨v1, v2, v3, v4⟩ := id vm
  obtain ⟨o1, o2, o3⟩ := v3 i hi.1 hi.2
  have hi2 : ((i.toNat : Nat) : Int) = i := by omega
  have z1 : zw (37 - sgf m i) = 37 - sgf m i := zw_lit (by omega) (by omega)
  have z2 : zw (i * 6) = i * 6 := zw_lit (by omega) (by omega)
  have z3 : zw (6 * i) = 6 * i := zw_lit (by omega) (by omega)
  obtain ⟨b0, b1⟩ := p42 i.toNat (by omega)
  have b2 : (37 - sgf m i) * 64 ^ i.toNat ≤ 37 * 64 ^ i.toNat := Int.mul_le_mul_of_nonneg_right (by omega) (by omega)
  have b3 : 0 ≤ (37 - sgf m i) * 64 ^ i.toNat := Int.mul_nonneg (by omega) (by omega)
  have e1 : qil (37 - sgf m i) = 37 - sgf m i := by
    obtain ⟨k, hk⟩ := Int.eq_ofNat_of_zero_le (show 0 ≤ 37 - sgf m i by omega)
    rw [hk]
    exact qil_ok k (by omega)
  have e2 : qlshl (37 - sgf m i) ((6 * i.toNat : Nat) : Int) = (37 - sgf m i) * 64 ^ i.toNat := by
    rw [qlshl_ok (by omega) (by omega) (by rw [← (p64 i.toNat (by omega)).2]; omega), (p64 i.toNat (by omega)).2]
  have e3 : qlshl (37 - sgf m i) (i * 6) = (37 - sgf m i) * 64 ^ i.toNat := by
    have := e2
    rwa [show ((6 * i.toNat : Nat) : Int) = i * 6 by omega] at this
  have e4 : qlshl (37 - sgf m i) (6 * i) = (37 - sgf m i) * 64 ^ i.toNat := by
    have := e2
    rwa [show ((6 * i.toNat : Nat) : Int) = 6 * i by omega] at this
  have e5 : qladd m ((37 - sgf m i) * 64 ^ i.toNat) = m + (37 - sgf m i) * 64 ^ i.toNat := qladd_ok r0 b3 (by omega)
  have h := call_runP 3 vm_X8_wearAt h
  have h := xw_top (hd := []) 3 xD6_ok xc_X8_wearAt xa_X8_wearAt (t := 0) rfl h
  simp (maxDischargeDepth := 12) -implicitDefEqProofs [vb_X8_wearAt_0, xI_1, xI_2, xI_8, xI_15, xI_16, xI_27, xI_29, xI_30, xI_60, xI_64, xw_X8_wearAt_0, zw_lit, xB_c, xB_s, xB_n, i1_c, j2_c, k1_c, jJ_e, xlg, xls, xla, xpd, ppush, zw_m1, zw_m2, zw_m3, xD1, xD2, xD3, xD4, xD5, xD6, xb1_0, z1, z2, z3, e1, e3, e4, e5] at h
  exact ⟨_, H, h, rfl, rfl⟩
def FR54 (H H' : PH) : Prop := ∀ c, ¬ c = 44 → ¬ c = 45 → ¬ c = 54 → H' c = H c
set_option maxRecDepth 100000 in
theorem lp_crs (m nn : Int) (f : Int → Int) (A : Int → Int) (X : PH) (hB : MB A) (hO : 0 ≤ A 3 ∧ A 3 ≤ 20) (ci : CI X A) (vm : VM m nn f) {E : xE} {res : xR} : ∀ (n : Nat) (i y : Int) (H : PH), 0 ≤ i → i ≤ A 0 → FR54 X H → (∀ x, 0 ≤ x → x < i → H 54 x = wnA A f nn x) → RUN E res n kd_X1_readSeen (zget kd_X1_readSeen 2) 2 [1, m, y, i] [] H → ∃ H' : PH, FR54 X H' ∧ REPR E res (some (0, rdM (wnA A f nn) (A 0) (A 3))) H' := by
  intro n
  induction n using Nat.strongRecOn with
  | _ n ih =>
    intro i y H i0 i1 hF hR h
    have a0 := hB.1
    have e2 : H 1 2 = A 0 := by rw [hF 1 (by decide) (by decide) (by decide)]; exact ci.1.1.1.symm
    have e7 : H 1 7 = A 3 := by rw [hF 1 (by decide) (by decide) (by decide)]; exact ci.1.1.2.2.2.1.symm
    have z1 : zw (i + 1) = i + 1 := zw_lit (by omega) (by omega)
    by_cases c : i < A 0
    · have c' : ¬ A 0 ≤ i := by omega
      have gi : gv H 46 i = 57 + 3 * i := gv46 i0 (by omega)
      have g0 := (KB_f (KB_of (b := i) i0 (by omega))).2.2.1
      have ei : H (57 + 3 * i) = X (57 + 3 * i) := hF _ (by omega) (by omega) (by omega)
      have vb := (ci.1.2.1 i i0 c).1
      have h := xw_top (hd := [2]) 5 xD6_ok xc_X1_readSeen xa_X1_readSeen (t := 2) rfl h
      simp (maxDischargeDepth := 12) -implicitDefEqProofs [vb_X1_readSeen_0, vb_X1_readSeen_2, vb_X1_readSeen_39, xI_0, xI_1, xI_2, xI_3, xI_6, xI_7, xI_36, xI_46, xI_49, xI_52, xI_53, xI_61, xI_62, xw_X1_readSeen_0, xw_X1_readSeen_2, xw_X1_readSeen_39, zw_lit, xB_c, xB_s, xB_n, i1_c, j2_c, k1_c, jJ_e, xlg, xls, xla, xpd, ppush, zw_m1, zw_m2, zw_m3, gf_0_0, gf_1_0, gf_1_1, gf_1_2, gf_1_7, gf_1_14, tg_0_0, tg_1_0, tg_1_1, tg_1_14, tg_1_2, tg_1_7, gv_1_0, gv_1_1, gv_1_2, gv_1_7, gv_1_14, xD1, xD2, xD3, xD4, xD5, xD6, xb1_0, e2, c, c', gi, g0, ei] at h
      obtain ⟨r, H1, ⟨rfl, hf⟩, g⟩ := xc_use h (sp_X8_gap m (X (57 + 3 * i) 0) H (by have := vm.1; have := vm.2.1; omega) (by have := vb.1; have := vb.2.1; omega) (fun j j0 j1 => by have := vm.2.2.1 j j0 (by have := vm.1; omega); omega))
      have ea : apC H m (X (57 + 3 * i) 0) = wnA A f nn i := by
        unfold wnA
        exact apC_A (fun x y x0 x1 y0 y1 => by rw [hF _ (by omega) (by omega) (by omega)]; exact ci.1.2.2.2.1 x y x0 x1 y0 y1) vm vb
      rw [ea] at g
      simp (maxDischargeDepth := 12) -implicitDefEqProofs [vb_X1_readSeen_0, vb_X1_readSeen_2, vb_X1_readSeen_39, xI_0, xI_1, xI_2, xI_3, xI_6, xI_7, xI_36, xI_46, xI_49, xI_52, xI_53, xI_61, xI_62, xw_X1_readSeen_0, xw_X1_readSeen_2, xw_X1_readSeen_39, zw_lit, xB_c, xB_s, xB_n, i1_c, j2_c, k1_c, jJ_e, xlg, xls, xla, xpd, ppush, zw_m1, zw_m2, zw_m3, gf_0_0, gf_1_0, gf_1_1, gf_1_2, gf_1_7, gf_1_14, tg_0_0, tg_1_0, tg_1_1, tg_1_14, tg_1_2, tg_1_7, gv_1_0, gv_1_1, gv_1_2, gv_1_7, gv_1_14, xD1, xD2, xD3, xD4, xD5, xD6, xb1_0, z1] at g
      obtain ⟨k, hk, g⟩ := g
      exact ih k hk (i + 1) _ _ (by omega) (by omega) (fun d p q r => by rw [xp_ne r, hf d p q]; exact hF d p q r) (fun x x0 x1 => by
        rw [xp_at]
        by_cases e : x = i
        · rw [if_pos e, e]
        · rw [if_neg e, hf 54 (by decide) (by decide)]
          exact hR x x0 (by omega)) g
    · have c' : A 0 ≤ i := by omega
      have h := xw_top (hd := [2]) 5 xD6_ok xc_X1_readSeen xa_X1_readSeen (t := 2) rfl h
      simp (maxDischargeDepth := 12) -implicitDefEqProofs [vb_X1_readSeen_0, vb_X1_readSeen_2, vb_X1_readSeen_39, xI_0, xI_1, xI_2, xI_3, xI_6, xI_7, xI_36, xI_46, xI_49, xI_52, xI_53, xI_61, xI_62, xw_X1_readSeen_0, xw_X1_readSeen_2, xw_X1_readSeen_39, zw_lit, xB_c, xB_s, xB_n, i1_c, j2_c, k1_c, jJ_e, xlg, xls, xla, xpd, ppush, zw_m1, zw_m2, zw_m3, gf_0_0, gf_1_0, gf_1_1, gf_1_2, gf_1_7, gf_1_14, tg_0_0, tg_1_0, tg_1_1, tg_1_14, tg_1_2, tg_1_7, gv_1_0, gv_1_1, gv_1_2, gv_1_7, gv_1_14, xD1, xD2, xD3, xD4, xD5, xD6, xb1_0, e2, c, c', e7] at h
      obtain ⟨r, H1, ⟨rfl, rfl⟩, g⟩ := xc_use h (sp_X1_readBy 54 (A 3) H (by decide) (by rw [e2]; exact a0) (by omega))
      have er : rdM (H1 54) (H1 1 2) (A 3) = rdM (wnA A f nn) (A 0) (A 3) := by
        rw [e2]
        unfold rdM
        rw [rbF_eq _ _ _ (fun x x0 x1 => hR x x0 (by omega))]
      rw [er] at g
      simp (maxDischargeDepth := 12) -implicitDefEqProofs [vb_X1_readSeen_0, vb_X1_readSeen_2, vb_X1_readSeen_39, xI_0, xI_1, xI_2, xI_3, xI_6, xI_7, xI_36, xI_46, xI_49, xI_52, xI_53, xI_61, xI_62, xw_X1_readSeen_0, xw_X1_readSeen_2, xw_X1_readSeen_39, zw_lit, xB_c, xB_s, xB_n, i1_c, j2_c, k1_c, jJ_e, xlg, xls, xla, xpd, ppush, zw_m1, zw_m2, zw_m3, gf_0_0, gf_1_0, gf_1_1, gf_1_2, gf_1_7, gf_1_14, tg_0_0, tg_1_0, tg_1_1, tg_1_14, tg_1_2, tg_1_7, gv_1_0, gv_1_1, gv_1_2, gv_1_7, gv_1_14, xD1, xD2, xD3, xD4, xD5, xD6, xb1_0] at g
      exact ⟨_, hF, g⟩
set_option maxRecDepth 100000 in
theorem sp_X1_readSeen (m nn : Int) (f : Int → Int) (A : Int → Int) (X H : PH) (hB : MB A) (hO : 0 ≤ A 3 ∧ A 3 ≤ 20) (ci : CI X A) (vm : VM m nn f) (hF : FR54 X H) : SPEC 17 [(2, 1), (1, m)] H (fun r H' => r = some (0, rdM (wnA A f nn) (A 0) (A 3)) ∧ FR54 X H') := by
  intro E n res h
  have h := call_runP 4 vm_X1_readSeen h
  have h := xw_top (hd := [2]) 5 xD6_ok xc_X1_readSeen xa_X1_readSeen (t := 0) rfl h
  simp (maxDischargeDepth := 12) -implicitDefEqProofs [vb_X1_readSeen_0, vb_X1_readSeen_2, vb_X1_readSeen_39, xI_0, xI_1, xI_2, xI_3, xI_6, xI_7, xI_36, xI_46, xI_49, xI_52, xI_53, xI_61, xI_62, xw_X1_readSeen_0, xw_X1_readSeen_2, xw_X1_readSeen_39, zw_lit, xB_c, xB_s, xB_n, i1_c, j2_c, k1_c, jJ_e, xlg, xls, xla, xpd, ppush, zw_m1, zw_m2, zw_m3, gf_0_0, gf_1_0, gf_1_1, gf_1_2, gf_1_7, gf_1_14, tg_0_0, tg_1_0, tg_1_1, tg_1_14, tg_1_2, tg_1_7, gv_1_0, gv_1_1, gv_1_2, gv_1_7, gv_1_14, xD1, xD2, xD3, xD4, xD5, xD6, xb1_0] at h
  obtain ⟨k, hk, h⟩ := h
  obtain ⟨H', f1, g⟩ := lp_crs m nn f A X hB hO ci vm k 0 _ H (by omega) hB.1.1 hF (fun x x0 x1 => by omega) h
  exact ⟨_, H', g, rfl, f1⟩
set_option maxRecDepth 100000 in
theorem lp_cwn (b w m : Int) (A : Int → Int) (X : PH) (hB : MB A) (hO : 0 ≤ A 3 ∧ A 3 ≤ 20) (ci : CI X A) (hb : 0 ≤ b ∧ b < A 0) (hw : 0 ≤ w ∧ w ≤ 1) (vm : VM m (A (92 + 26 * b)) (fun i => A (92 + 26 * b + 1 + i))) {E : xE} {res : xR} : ∀ (n : Nat) (i y : Int) (s : Int × Int) (H : PH), 0 ≤ i → i ≤ A (92 + 26 * b) → 0 ≤ s.1 → s.1 ≤ i → FR54 X H → RUN E res n kd_X11_worn (zget kd_X11_worn 42) 42 [0, b, w, m, y, s.2, s.1, i] [] H → ∃ H' : PH, FR54 X H' ∧ REPR E res (some (0, if w = 0 then (wrF A b (A (92 + 26 * b) - i).toNat i s).1 else (wrF A b (A (92 + 26 * b) - i).toNat i s).2)) H' := by
  intro n
  induction n using Nat.strongRecOn with
  | _ n ih =>
    intro i y s H i0 i1 m0 m1 hF hh
    have sz := vm.1
    have n8 := vm.2.1
    have z1 : zw (i + 1) = i + 1 := zw_lit (by omega) (by omega)
    have zm : zw (s.1 + 1) = s.1 + 1 := zw_lit (by omega) (by omega)
    by_cases c : i < A (92 + 26 * b)
    · have c' : ¬ A (92 + 26 * b) ≤ i := by omega
      have st : (A (92 + 26 * b) - i).toNat = (A (92 + 26 * b) - (i + 1)).toNat + 1 := by omega
      rw [st]
      unfold wrF
      have hh := xw_top (hd := [42]) 12 xD6_ok xc_X11_worn xa_X11_worn (t := 42) rfl hh
      simp (maxDischargeDepth := 12) -implicitDefEqProofs [vb_X11_worn_0, vb_X11_worn_17, vb_X11_worn_20, vb_X11_worn_42, vb_X11_worn_78, vb_X11_worn_80, vb_X11_worn_85, vb_X11_worn_91, vb_X11_worn_100, vb_X11_worn_102, xI_0, xI_1, xI_2, xI_3, xI_5, xI_6, xI_7, xI_8, xI_36, xI_37, xI_38, xI_43, xI_46, xI_49, xI_53, xI_60, xI_61, xI_62, xw_X11_worn_0, xw_X11_worn_17, xw_X11_worn_20, xw_X11_worn_42, xw_X11_worn_78, xw_X11_worn_80, xw_X11_worn_85, xw_X11_worn_91, xw_X11_worn_100, xw_X11_worn_102, zw_lit, xB_c, xB_s, xB_n, i1_c, j2_c, k1_c, jJ_e, xlg, xls, xla, xpd, ppush, zw_m1, zw_m2, zw_m3, gf_0_0, gf_1_1, gf_11_0, tg_0_0, tg_11_0, tg_1_1, gv_1_1, gv_0_0, xD1, xD2, xD3, xD4, xD5, xD6, xb1_0, sz, c, c'] at hh
      obtain ⟨r, H1, ⟨rfl, rfl⟩, g⟩ := xc_use hh (sp_X8_wearAt m _ i _ _ vm ⟨i0, c⟩)
      simp (maxDischargeDepth := 12) -implicitDefEqProofs [vb_X11_worn_0, vb_X11_worn_17, vb_X11_worn_20, vb_X11_worn_42, vb_X11_worn_78, vb_X11_worn_80, vb_X11_worn_85, vb_X11_worn_91, vb_X11_worn_100, vb_X11_worn_102, xI_0, xI_1, xI_2, xI_3, xI_5, xI_6, xI_7, xI_8, xI_36, xI_37, xI_38, xI_43, xI_46, xI_49, xI_53, xI_60, xI_61, xI_62, xw_X11_worn_0, xw_X11_worn_17, xw_X11_worn_20, xw_X11_worn_42, xw_X11_worn_78, xw_X11_worn_80, xw_X11_worn_85, xw_X11_worn_91, xw_X11_worn_100, xw_X11_worn_102, zw_lit, xB_c, xB_s, xB_n, i1_c, j2_c, k1_c, jJ_e, xlg, xls, xla, xpd, ppush, zw_m1, zw_m2, zw_m3, gf_0_0, gf_1_1, gf_11_0, tg_0_0, tg_11_0, tg_1_1, gv_1_1, gv_0_0, xD1, xD2, xD3, xD4, xD5, xD6, xb1_0] at g
      obtain ⟨r, H2, ⟨rfl, hF2⟩, g⟩ := xc_use g (sp_X1_readSeen _ _ _ A X _ hB hO ci (wear_VM vm ⟨i0, c⟩) hF)
      have ew : (fun j => if j = i then 46 else A (92 + 26 * b + 1 + j)) = wrf A b i := rfl
      rw [ew] at g
      by_cases q : rdM (wnA A (wrf A b i) (A (92 + 26 * b))) (A 0) (A 3) = b
      · have q' : (rdM (wnA A (wrf A b i) (A (92 + 26 * b))) (A 0) (A 3) = b) = True := eq_true q
        have es : wrS A b i s = s := if_neg (fun w => w q)
        rw [es]
        simp (maxDischargeDepth := 12) -implicitDefEqProofs [vb_X11_worn_0, vb_X11_worn_17, vb_X11_worn_20, vb_X11_worn_42, vb_X11_worn_78, vb_X11_worn_80, vb_X11_worn_85, vb_X11_worn_91, vb_X11_worn_100, vb_X11_worn_102, xI_0, xI_1, xI_2, xI_3, xI_5, xI_6, xI_7, xI_8, xI_36, xI_37, xI_38, xI_43, xI_46, xI_49, xI_53, xI_60, xI_61, xI_62, xw_X11_worn_0, xw_X11_worn_17, xw_X11_worn_20, xw_X11_worn_42, xw_X11_worn_78, xw_X11_worn_80, xw_X11_worn_85, xw_X11_worn_91, xw_X11_worn_100, xw_X11_worn_102, zw_lit, xB_c, xB_s, xB_n, i1_c, j2_c, k1_c, jJ_e, xlg, xls, xla, xpd, ppush, zw_m1, zw_m2, zw_m3, gf_0_0, gf_1_1, gf_11_0, tg_0_0, tg_11_0, tg_1_1, gv_1_1, gv_0_0, xD1, xD2, xD3, xD4, xD5, xD6, xb1_0, q', z1] at g
        obtain ⟨k, hk, g⟩ := g
        exact ih k hk (i + 1) _ s H2 (by omega) (by omega) m0 (by omega) hF2 g
      · have es : wrS A b i s = (s.1 + 1, if s.1 = 0 then i else s.2) := if_pos q
        rw [es]
        by_cases c0 : s.1 = 0
        · rw [if_pos c0]
          simp (maxDischargeDepth := 12) -implicitDefEqProofs [vb_X11_worn_0, vb_X11_worn_17, vb_X11_worn_20, vb_X11_worn_42, vb_X11_worn_78, vb_X11_worn_80, vb_X11_worn_85, vb_X11_worn_91, vb_X11_worn_100, vb_X11_worn_102, xI_0, xI_1, xI_2, xI_3, xI_5, xI_6, xI_7, xI_8, xI_36, xI_37, xI_38, xI_43, xI_46, xI_49, xI_53, xI_60, xI_61, xI_62, xw_X11_worn_0, xw_X11_worn_17, xw_X11_worn_20, xw_X11_worn_42, xw_X11_worn_78, xw_X11_worn_80, xw_X11_worn_85, xw_X11_worn_91, xw_X11_worn_100, xw_X11_worn_102, zw_lit, xB_c, xB_s, xB_n, i1_c, j2_c, k1_c, jJ_e, xlg, xls, xla, xpd, ppush, zw_m1, zw_m2, zw_m3, gf_0_0, gf_1_1, gf_11_0, tg_0_0, tg_11_0, tg_1_1, gv_1_1, gv_0_0, xD1, xD2, xD3, xD4, xD5, xD6, xb1_0, q, z1, c0] at g
          obtain ⟨k, hk, g⟩ := g
          exact ih k hk (i + 1) _ (s.1 + 1, i) H2 (by omega) (by omega) (by show 0 ≤ s.1 + 1; omega) (by show s.1 + 1 ≤ i + 1; omega) hF2 (by rw [c0]; exact g)
        · rw [if_neg c0]
          simp (maxDischargeDepth := 12) -implicitDefEqProofs [vb_X11_worn_0, vb_X11_worn_17, vb_X11_worn_20, vb_X11_worn_42, vb_X11_worn_78, vb_X11_worn_80, vb_X11_worn_85, vb_X11_worn_91, vb_X11_worn_100, vb_X11_worn_102, xI_0, xI_1, xI_2, xI_3, xI_5, xI_6, xI_7, xI_8, xI_36, xI_37, xI_38, xI_43, xI_46, xI_49, xI_53, xI_60, xI_61, xI_62, xw_X11_worn_0, xw_X11_worn_17, xw_X11_worn_20, xw_X11_worn_42, xw_X11_worn_78, xw_X11_worn_80, xw_X11_worn_85, xw_X11_worn_91, xw_X11_worn_100, xw_X11_worn_102, zw_lit, xB_c, xB_s, xB_n, i1_c, j2_c, k1_c, jJ_e, xlg, xls, xla, xpd, ppush, zw_m1, zw_m2, zw_m3, gf_0_0, gf_1_1, gf_11_0, tg_0_0, tg_11_0, tg_1_1, gv_1_1, gv_0_0, xD1, xD2, xD3, xD4, xD5, xD6, xb1_0, q, z1, zm, c0] at g
          obtain ⟨k, hk, g⟩ := g
          exact ih k hk (i + 1) _ (s.1 + 1, s.2) H2 (by omega) (by omega) (by show 0 ≤ s.1 + 1; omega) (by show s.1 + 1 ≤ i + 1; omega) hF2 g
    · have c' : A (92 + 26 * b) ≤ i := by omega
      rw [show (A (92 + 26 * b) - i).toNat = 0 by omega]
      by_cases w0 : w = 0
      · have hh := xw_top (hd := [42]) 12 xD6_ok xc_X11_worn xa_X11_worn (t := 42) rfl hh
        simp (maxDischargeDepth := 12) -implicitDefEqProofs [vb_X11_worn_0, vb_X11_worn_17, vb_X11_worn_20, vb_X11_worn_42, vb_X11_worn_78, vb_X11_worn_80, vb_X11_worn_85, vb_X11_worn_91, vb_X11_worn_100, vb_X11_worn_102, xI_0, xI_1, xI_2, xI_3, xI_5, xI_6, xI_7, xI_8, xI_36, xI_37, xI_38, xI_43, xI_46, xI_49, xI_53, xI_60, xI_61, xI_62, xw_X11_worn_0, xw_X11_worn_17, xw_X11_worn_20, xw_X11_worn_42, xw_X11_worn_78, xw_X11_worn_80, xw_X11_worn_85, xw_X11_worn_91, xw_X11_worn_100, xw_X11_worn_102, zw_lit, xB_c, xB_s, xB_n, i1_c, j2_c, k1_c, jJ_e, xlg, xls, xla, xpd, ppush, zw_m1, zw_m2, zw_m3, gf_0_0, gf_1_1, gf_11_0, tg_0_0, tg_11_0, tg_1_1, gv_1_1, gv_0_0, xD1, xD2, xD3, xD4, xD5, xD6, xb1_0, sz, c, c', w0] at hh
        rw [if_pos w0]
        exact ⟨H, hF, hh⟩
      · have hh := xw_top (hd := [42]) 12 xD6_ok xc_X11_worn xa_X11_worn (t := 42) rfl hh
        simp (maxDischargeDepth := 12) -implicitDefEqProofs [vb_X11_worn_0, vb_X11_worn_17, vb_X11_worn_20, vb_X11_worn_42, vb_X11_worn_78, vb_X11_worn_80, vb_X11_worn_85, vb_X11_worn_91, vb_X11_worn_100, vb_X11_worn_102, xI_0, xI_1, xI_2, xI_3, xI_5, xI_6, xI_7, xI_8, xI_36, xI_37, xI_38, xI_43, xI_46, xI_49, xI_53, xI_60, xI_61, xI_62, xw_X11_worn_0, xw_X11_worn_17, xw_X11_worn_20, xw_X11_worn_42, xw_X11_worn_78, xw_X11_worn_80, xw_X11_worn_85, xw_X11_worn_91, xw_X11_worn_100, xw_X11_worn_102, zw_lit, xB_c, xB_s, xB_n, i1_c, j2_c, k1_c, jJ_e, xlg, xls, xla, xpd, ppush, zw_m1, zw_m2, zw_m3, gf_0_0, gf_1_1, gf_11_0, tg_0_0, tg_11_0, tg_1_1, gv_1_1, gv_0_0, xD1, xD2, xD3, xD4, xD5, xD6, xb1_0, sz, c, c', w0] at hh
        rw [if_neg w0]
        exact ⟨H, hF, hh⟩
set_option maxRecDepth 100000 in
theorem sp_c_worn (b w : Int) (S : Int → Int → Int) (n : Int) (H : PH) (hR : RC H S n) (hM : MCC (S 0) H) : SPEC 132 [(2, 0), (0, b), (0, w)] H (fun r H' => r = some (0, wrQ (S 0) b w) ∧ CQ H H' S n) := by
  intro E n' res h
  obtain ⟨e0, e2, z0, z2, a0, a2⟩ := RC_12 hR
  have ok0 := RC_sz hR
  have os := ok0.2.2.1
  unfold OKS at os
  by_cases qb : 0 ≤ b ∧ b ≤ H 1 2 - 1
  · have b0 := qb.1
    have b1 := qb.2
    have b2 : ¬ b < 0 := by omega
    have b3 : ¬ H 1 2 - 1 < b := by omega
    by_cases qw : 0 ≤ w ∧ w ≤ 1
    · have w0 := qw.1
      have w1 := qw.2
      have w2 : ¬ w < 0 := by omega
      have w3 : ¬ 1 < w := by omega
      have hq : (0 ≤ b ∧ b < S 0 0) ∧ (0 ≤ w ∧ w ≤ 1) := by omega
      have g46 : gv H 46 b = 57 + 3 * b := gv46 b0 (by omega)
      have g0 := (KB_f (KB_of (b := b) b0 (by omega))).2.2.1
      have vm := (hR.1.1.2.1 b b0 hq.1.2).1
      have h := call_runP 8 vm_X11_worn h
      have h := xw_top (hd := [42]) 12 xD6_ok xc_X11_worn xa_X11_worn (t := 0) rfl h
      simp (maxDischargeDepth := 12) -implicitDefEqProofs [vb_X11_worn_0, vb_X11_worn_17, vb_X11_worn_20, vb_X11_worn_42, vb_X11_worn_78, vb_X11_worn_80, vb_X11_worn_85, vb_X11_worn_91, vb_X11_worn_100, vb_X11_worn_102, xI_0, xI_1, xI_2, xI_3, xI_5, xI_6, xI_7, xI_8, xI_36, xI_37, xI_38, xI_43, xI_46, xI_49, xI_53, xI_60, xI_61, xI_62, xw_X11_worn_0, xw_X11_worn_17, xw_X11_worn_20, xw_X11_worn_42, xw_X11_worn_78, xw_X11_worn_80, xw_X11_worn_85, xw_X11_worn_91, xw_X11_worn_100, xw_X11_worn_102, zw_lit, xB_c, xB_s, xB_n, i1_c, j2_c, k1_c, jJ_e, xlg, xls, xla, xpd, ppush, zw_m1, zw_m2, zw_m3, gf_0_0, gf_1_1, gf_11_0, tg_0_0, tg_11_0, tg_1_1, gv_1_1, gv_0_0, xD1, xD2, xD3, xD4, xD5, xD6, xb1_0, z0, b0, b1, b2, b3, w0, w1, w2, w3, g46, g0] at h
      obtain ⟨m, hm, g⟩ := h
      obtain ⟨H', hF, g⟩ := lp_cwn b w _ (S 0) H ok0.1 os.1 hR.1 hq.1 qw vm m 0 _ (0, -1) H (by omega) (by have := vm.2.1; omega) (Int.le_refl _) (Int.le_refl _) (fun _ _ _ _ => rfl) g
      rw [Int.sub_zero] at g
      exact ⟨_, H', g, by unfold wrQ; rw [if_pos hq]; rfl, CQ_54 (CQ_refl hR hM) hF⟩
    · by_cases w0 : 0 ≤ w
      · have w1 : ¬ w ≤ 1 := by omega
        have w2 : ¬ w < 0 := by omega
        have w3 : 1 < w := by omega
        have h := call_runP 8 vm_X11_worn h
        have h := xw_top (hd := [42]) 12 xD6_ok xc_X11_worn xa_X11_worn (t := 0) rfl h
        simp (maxDischargeDepth := 12) -implicitDefEqProofs [vb_X11_worn_0, vb_X11_worn_17, vb_X11_worn_20, vb_X11_worn_42, vb_X11_worn_78, vb_X11_worn_80, vb_X11_worn_85, vb_X11_worn_91, vb_X11_worn_100, vb_X11_worn_102, xI_0, xI_1, xI_2, xI_3, xI_5, xI_6, xI_7, xI_8, xI_36, xI_37, xI_38, xI_43, xI_46, xI_49, xI_53, xI_60, xI_61, xI_62, xw_X11_worn_0, xw_X11_worn_17, xw_X11_worn_20, xw_X11_worn_42, xw_X11_worn_78, xw_X11_worn_80, xw_X11_worn_85, xw_X11_worn_91, xw_X11_worn_100, xw_X11_worn_102, zw_lit, xB_c, xB_s, xB_n, i1_c, j2_c, k1_c, jJ_e, xlg, xls, xla, xpd, ppush, zw_m1, zw_m2, zw_m3, gf_0_0, gf_1_1, gf_11_0, tg_0_0, tg_11_0, tg_1_1, gv_1_1, gv_0_0, xD1, xD2, xD3, xD4, xD5, xD6, xb1_0, z0, b0, b1, b2, b3, w0, w1, w2, w3] at h
        exact ⟨_, _, h, by unfold wrQ; rw [if_neg (by omega)], CQ_refl hR hM⟩
      · have w2 : w < 0 := by omega
        have h := call_runP 8 vm_X11_worn h
        have h := xw_top (hd := [42]) 12 xD6_ok xc_X11_worn xa_X11_worn (t := 0) rfl h
        simp (maxDischargeDepth := 12) -implicitDefEqProofs [vb_X11_worn_0, vb_X11_worn_17, vb_X11_worn_20, vb_X11_worn_42, vb_X11_worn_78, vb_X11_worn_80, vb_X11_worn_85, vb_X11_worn_91, vb_X11_worn_100, vb_X11_worn_102, xI_0, xI_1, xI_2, xI_3, xI_5, xI_6, xI_7, xI_8, xI_36, xI_37, xI_38, xI_43, xI_46, xI_49, xI_53, xI_60, xI_61, xI_62, xw_X11_worn_0, xw_X11_worn_17, xw_X11_worn_20, xw_X11_worn_42, xw_X11_worn_78, xw_X11_worn_80, xw_X11_worn_85, xw_X11_worn_91, xw_X11_worn_100, xw_X11_worn_102, zw_lit, xB_c, xB_s, xB_n, i1_c, j2_c, k1_c, jJ_e, xlg, xls, xla, xpd, ppush, zw_m1, zw_m2, zw_m3, gf_0_0, gf_1_1, gf_11_0, tg_0_0, tg_11_0, tg_1_1, gv_1_1, gv_0_0, xD1, xD2, xD3, xD4, xD5, xD6, xb1_0, z0, b0, b1, b2, b3, w0, w2] at h
        exact ⟨_, _, h, by unfold wrQ; rw [if_neg (by omega)], CQ_refl hR hM⟩
  · by_cases b0 : 0 ≤ b
    · have b1 : ¬ b ≤ H 1 2 - 1 := by omega
      have b2 : ¬ b < 0 := by omega
      have b3 : H 1 2 - 1 < b := by omega
      have h := call_runP 8 vm_X11_worn h
      have h := xw_top (hd := [42]) 12 xD6_ok xc_X11_worn xa_X11_worn (t := 0) rfl h
      simp (maxDischargeDepth := 12) -implicitDefEqProofs [vb_X11_worn_0, vb_X11_worn_17, vb_X11_worn_20, vb_X11_worn_42, vb_X11_worn_78, vb_X11_worn_80, vb_X11_worn_85, vb_X11_worn_91, vb_X11_worn_100, vb_X11_worn_102, xI_0, xI_1, xI_2, xI_3, xI_5, xI_6, xI_7, xI_8, xI_36, xI_37, xI_38, xI_43, xI_46, xI_49, xI_53, xI_60, xI_61, xI_62, xw_X11_worn_0, xw_X11_worn_17, xw_X11_worn_20, xw_X11_worn_42, xw_X11_worn_78, xw_X11_worn_80, xw_X11_worn_85, xw_X11_worn_91, xw_X11_worn_100, xw_X11_worn_102, zw_lit, xB_c, xB_s, xB_n, i1_c, j2_c, k1_c, jJ_e, xlg, xls, xla, xpd, ppush, zw_m1, zw_m2, zw_m3, gf_0_0, gf_1_1, gf_11_0, tg_0_0, tg_11_0, tg_1_1, gv_1_1, gv_0_0, xD1, xD2, xD3, xD4, xD5, xD6, xb1_0, z0, b0, b1, b2, b3] at h
      exact ⟨_, _, h, by unfold wrQ; rw [if_neg (by omega)], CQ_refl hR hM⟩
    · have b2 : b < 0 := by omega
      have h := call_runP 8 vm_X11_worn h
      have h := xw_top (hd := [42]) 12 xD6_ok xc_X11_worn xa_X11_worn (t := 0) rfl h
      simp (maxDischargeDepth := 12) -implicitDefEqProofs [vb_X11_worn_0, vb_X11_worn_17, vb_X11_worn_20, vb_X11_worn_42, vb_X11_worn_78, vb_X11_worn_80, vb_X11_worn_85, vb_X11_worn_91, vb_X11_worn_100, vb_X11_worn_102, xI_0, xI_1, xI_2, xI_3, xI_5, xI_6, xI_7, xI_8, xI_36, xI_37, xI_38, xI_43, xI_46, xI_49, xI_53, xI_60, xI_61, xI_62, xw_X11_worn_0, xw_X11_worn_17, xw_X11_worn_20, xw_X11_worn_42, xw_X11_worn_78, xw_X11_worn_80, xw_X11_worn_85, xw_X11_worn_91, xw_X11_worn_100, xw_X11_worn_102, zw_lit, xB_c, xB_s, xB_n, i1_c, j2_c, k1_c, jJ_e, xlg, xls, xla, xpd, ppush, zw_m1, zw_m2, zw_m3, gf_0_0, gf_1_1, gf_11_0, tg_0_0, tg_11_0, tg_1_1, gv_1_1, gv_0_0, xD1, xD2, xD3, xD4, xD5, xD6, xb1_0, z0, b0, b2] at h
      exact ⟨_, _, h, by unfold wrQ; rw [if_neg (by omega)], CQ_refl hR hM⟩
/-! the model's -/
set_option maxRecDepth 100000 in
theorem sq_init (nn w b y m : Int) (hm : 0 ≤ m ∧ m ≤ 8) {E : xE} {res : xR} : ∀ (n : Nat) (i a c d : Int) (H : PH), 0 ≤ i → i ≤ m + 1 → (∀ x, 0 ≤ x → x < i → H 599 x = 2 * x) → RUN E res n kd_X12_spareApart (zget kd_X12_spareApart 20) 20 [590, nn, w, b, y, m, i, a, c, d] [] H → ∃ H' : PH, (∀ x, 0 ≤ x → x ≤ m → H' 599 x = 2 * x) ∧ (∀ c, ¬ c = 599 → H' c = H c) ∧ xJ E res n kd_X12_spareApart 47 [590, nn, w, b, y, m, 0, a, c, d] [] H' := by
  intro n
  induction n using Nat.strongRecOn with
  | _ n ih =>
    intro i a b c H hi0 hi1 hR h
    have z1 : zw (i + 1) = i + 1 := zw_lit (by omega) (by omega)
    have z2 : zw (2 * i) = 2 * i := zw_lit (by omega) (by omega)
    have h := xw_top (hd := [20, 47]) 11 xD6_ok xc_X12_spareApart xa_X12_spareApart (t := 20) rfl h
    simp (maxDischargeDepth := 12) -implicitDefEqProofs [vb_X12_spareApart_0, vb_X12_spareApart_20, vb_X12_spareApart_44, vb_X12_spareApart_47, vb_X12_spareApart_76, vb_X12_spareApart_97, vb_X12_spareApart_104, vb_X12_spareApart_174, vb_X12_spareApart_180, xI_0, xI_1, xI_3, xI_6, xI_7, xI_8, xI_14, xI_16, xI_36, xI_44, xI_46, xI_47, xI_49, xI_51, xI_52, xI_60, xI_61, xI_62, xw_X12_spareApart_0, xw_X12_spareApart_20, xw_X12_spareApart_44, xw_X12_spareApart_47, xw_X12_spareApart_76, xw_X12_spareApart_97, xw_X12_spareApart_104, xw_X12_spareApart_174, xw_X12_spareApart_180, zw_lit, xB_c, xB_s, xB_n, i1_c, j2_c, k1_c, jJ_e, xlg, xls, xla, xpd, ppush, zw_m1, zw_m2, zw_m3, gf_12_0, gf_12_16, gf_12_43, tg_12_0, tg_12_16, tg_12_43, gv_590_0, gv_590_16, gv_590_43, xD1, xD2, xD3, xD4, xD5, xD6, xb1_0, z1, z2] at h
    rcases h with ⟨q, h⟩ | ⟨q, m', hm', h⟩
    · exact ⟨H, fun x x0 x1 => hR x x0 (by omega), fun _ _ => rfl, h⟩
    · obtain ⟨H', g1, g2, g3⟩ := ih m' hm' (i + 1) a b c (pup H 599 i (2 * i)) (by omega) (by omega) (fun x x0 x1 => by
        rw [xp_at]
        split
        · rename_i e
          rw [e]
        · exact hR x x0 (by omega)) h
      exact ⟨H', g1, fun c hc => by rw [g2 c hc, xp_ne hc], xJ_up g3 (by omega)⟩
set_option maxRecDepth 100000 in
theorem sq_in (nn w b m i s : Int) (A : Int → Int) (hm : 0 ≤ m ∧ m ≤ 8) (hi : 0 ≤ i ∧ i < 8) (hb : 0 ≤ b ∧ b < 12) (hk : 0 ≤ A 1 ∧ A 1 ≤ 8) {E : xE} {res : xR} : ∀ (n : Nat) (cn j v : Int) (R : Int → Int) (H : PH), 0 ≤ j → j ≤ m → H 591 = A → (if i = w then 46 else H 616 i) = s → (∀ x, 0 ≤ x → x ≤ m → H 599 x = R x) → RUN E res n kd_X12_spareApart (zget kd_X12_spareApart 76) 76 [590, nn, w, b, 92 + 26 * b, m, i, cn, j, v] [] H → ∃ (H' : PH) (a b' c : Int), (∀ x, 0 ≤ x → x ≤ m → H' 599 x = inn (fun j => chA A s (A (92 + 26 * b + 1 + j))) (m - j).toNat j cn R x) ∧ (∀ c, ¬ c = 599 → H' c = H c) ∧ xJ E res n kd_X12_spareApart 47 [590, nn, w, b, 92 + 26 * b, m, i + 1, a, b', c] [] H' := by
  intro n
  induction n using Nat.strongRecOn with
  | _ n ih =>
    intro cn j v R H hj0 hj1 hA hs hR h
    have z1 : zw (i + 1) = i + 1 := zw_lit (by omega) (by omega)
    have z2 : zw (j + 1) = j + 1 := zw_lit (by omega) (by omega)
    have z3 : zw (92 + 26 * b + 1) = 92 + 26 * b + 1 := zw_lit (by omega) (by omega)
    have z4 : zw (92 + 26 * b + 1 + j) = 92 + 26 * b + 1 + j := zw_lit (by omega) (by omega)
    by_cases c : m ≤ j
    · have c' : ¬ j < m := by omega
      have h := xw_top (hd := [76, 47]) 11 xD6_ok xc_X12_spareApart xa_X12_spareApart (t := 76) rfl h
      simp (maxDischargeDepth := 12) -implicitDefEqProofs [vb_X12_spareApart_0, vb_X12_spareApart_20, vb_X12_spareApart_44, vb_X12_spareApart_47, vb_X12_spareApart_76, vb_X12_spareApart_97, vb_X12_spareApart_104, vb_X12_spareApart_174, vb_X12_spareApart_180, xI_0, xI_1, xI_3, xI_6, xI_7, xI_8, xI_14, xI_16, xI_36, xI_44, xI_46, xI_47, xI_49, xI_51, xI_52, xI_60, xI_61, xI_62, xw_X12_spareApart_0, xw_X12_spareApart_20, xw_X12_spareApart_44, xw_X12_spareApart_47, xw_X12_spareApart_76, xw_X12_spareApart_97, xw_X12_spareApart_104, xw_X12_spareApart_174, xw_X12_spareApart_180, zw_lit, xB_c, xB_s, xB_n, i1_c, j2_c, k1_c, jJ_e, xlg, xls, xla, xpd, ppush, zw_m1, zw_m2, zw_m3, gf_12_0, gf_12_16, gf_12_43, tg_12_0, tg_12_16, tg_12_43, gv_590_0, gv_590_16, gv_590_43, xD1, xD2, xD3, xD4, xD5, xD6, xb1_0, z1, c, c'] at h
      rw [show (m - j).toNat = 0 by omega]
      exact ⟨H, _, _, _, hR, fun _ _ => rfl, h⟩
    · have c' : j < m := by omega
      have r1 := hR (j + 1) (by omega) (by omega)
      have r2 := hR j (by omega) (by omega)
      have nx : xJ E res n kd_X12_spareApart 76 [590, nn, w, b, 92 + 26 * b, m, i, R (j + 1), j + 1, zw (cn + chA A s (A (92 + 26 * b + 1 + j)))] [] (pup H 599 (j + 1) (min (zw (cn + chA A s (A (92 + 26 * b + 1 + j)))) (zw (min (R (j + 1)) (R j) + 2)))) → ∃ (H' : PH) (a b' c : Int), (∀ x, 0 ≤ x → x ≤ m → H' 599 x = inn (fun j => chA A s (A (92 + 26 * b + 1 + j))) (m - j).toNat j cn R x) ∧ (∀ c, ¬ c = 599 → H' c = H c) ∧ xJ E res n kd_X12_spareApart 47 [590, nn, w, b, 92 + 26 * b, m, i + 1, a, b', c] [] H' := by
        rintro ⟨m', hm', h⟩
        obtain ⟨H', a, b', c, g1, g2, g3⟩ := ih m' hm' _ (j + 1) _ (xup R (j + 1) (min (zw (cn + chA A s (A (92 + 26 * b + 1 + j)))) (zw (min (R (j + 1)) (R j) + 2)))) _ (by omega) (by omega) ((xp_ne (by decide)).trans hA) (by rw [xp_ne (by decide)]; exact hs) (fun x x0 x1 => by
          rw [xp_at]
          unfold xup
          split
          · rfl
          · exact hR x x0 x1) h
        rw [show (m - j).toNat = (m - (j + 1)).toNat + 1 by omega]
        exact ⟨H', a, b', c, g1, fun c hc => by rw [g2 c hc, xp_ne hc], xJ_up g3 (by omega)⟩
      by_cases e : i = w
      · have e' : (i = w) = True := eq_true e
        have es : s = 46 := by rw [← hs, if_pos e]
        have h := xw_top (hd := [76, 47]) 11 xD6_ok xc_X12_spareApart xa_X12_spareApart (t := 76) rfl h
        simp (maxDischargeDepth := 12) -implicitDefEqProofs [vb_X12_spareApart_0, vb_X12_spareApart_20, vb_X12_spareApart_44, vb_X12_spareApart_47, vb_X12_spareApart_76, vb_X12_spareApart_97, vb_X12_spareApart_104, vb_X12_spareApart_174, vb_X12_spareApart_180, xI_0, xI_1, xI_3, xI_6, xI_7, xI_8, xI_14, xI_16, xI_36, xI_44, xI_46, xI_47, xI_49, xI_51, xI_52, xI_60, xI_61, xI_62, xw_X12_spareApart_0, xw_X12_spareApart_20, xw_X12_spareApart_44, xw_X12_spareApart_47, xw_X12_spareApart_76, xw_X12_spareApart_97, xw_X12_spareApart_104, xw_X12_spareApart_174, xw_X12_spareApart_180, zw_lit, xB_c, xB_s, xB_n, i1_c, j2_c, k1_c, jJ_e, xlg, xls, xla, xpd, ppush, zw_m1, zw_m2, zw_m3, gf_12_0, gf_12_16, gf_12_43, tg_12_0, tg_12_16, tg_12_43, gv_590_0, gv_590_16, gv_590_43, xD1, xD2, xD3, xD4, xD5, xD6, xb1_0, z1, z2, z3, z4, hA, hk, c, c', e', r1, r2] at h
        rw [es] at nx
        first
          | exact nx h
          | (rw [es]; exact nx h)
      · have es : H 616 i = s := by rw [← hs, if_neg e]
        have h := xw_top (hd := [76, 47]) 11 xD6_ok xc_X12_spareApart xa_X12_spareApart (t := 76) rfl h
        simp (maxDischargeDepth := 12) -implicitDefEqProofs [vb_X12_spareApart_0, vb_X12_spareApart_20, vb_X12_spareApart_44, vb_X12_spareApart_47, vb_X12_spareApart_76, vb_X12_spareApart_97, vb_X12_spareApart_104, vb_X12_spareApart_174, vb_X12_spareApart_180, xI_0, xI_1, xI_3, xI_6, xI_7, xI_8, xI_14, xI_16, xI_36, xI_44, xI_46, xI_47, xI_49, xI_51, xI_52, xI_60, xI_61, xI_62, xw_X12_spareApart_0, xw_X12_spareApart_20, xw_X12_spareApart_44, xw_X12_spareApart_47, xw_X12_spareApart_76, xw_X12_spareApart_97, xw_X12_spareApart_104, xw_X12_spareApart_174, xw_X12_spareApart_180, zw_lit, xB_c, xB_s, xB_n, i1_c, j2_c, k1_c, jJ_e, xlg, xls, xla, xpd, ppush, zw_m1, zw_m2, zw_m3, gf_12_0, gf_12_16, gf_12_43, tg_12_0, tg_12_16, tg_12_43, gv_590_0, gv_590_16, gv_590_43, xD1, xD2, xD3, xD4, xD5, xD6, xb1_0, z1, z2, z3, z4, hA, hk, c, c', e, es, r1, r2] at h
        exact nx h
set_option maxRecDepth 100000 in
theorem sq_out (nn w b m : Int) (A g : Int → Int) (hm : 0 ≤ m ∧ m ≤ 8) (hn : 0 ≤ nn ∧ nn ≤ 8) (hb : 0 ≤ b ∧ b < 12) (hk : 0 ≤ A 1 ∧ A 1 ≤ 8) {E : xE} {res : xR} : ∀ (n : Nat) (i a b' c : Int) (R : Int → Int) (H : PH), 0 ≤ i → i ≤ nn → H 591 = A → (∀ x, 0 ≤ x → x < nn → (if x = w then 46 else H 616 x) = g x) → (∀ x, 0 ≤ x → x ≤ m → H 599 x = R x) → RUN E res n kd_X12_spareApart (zget kd_X12_spareApart 47) 47 [590, nn, w, b, 92 + 26 * b, m, i, a, b', c] [] H → ∃ H' : PH, (∀ c, ¬ c = 599 → H' c = H c) ∧ REPR E res (some (0, outr (fun i j => chA A (g i) (A (92 + 26 * b + 1 + j))) m.toNat (nn - i).toNat i R m)) H' := by
  intro n
  induction n using Nat.strongRecOn with
  | _ n ih =>
    intro i a b' c R H hi0 hi1 hA hG hR h
    have z1 : zw (2 * i) = 2 * i := zw_lit (by omega) (by omega)
    have z2 : zw (2 * i + 2) = 2 * i + 2 := zw_lit (by omega) (by omega)
    by_cases q : nn ≤ i
    · have q' : ¬ i < nn := by omega
      have h := xw_top (hd := [76, 47]) 11 xD6_ok xc_X12_spareApart xa_X12_spareApart (t := 47) rfl h
      simp (maxDischargeDepth := 12) -implicitDefEqProofs [vb_X12_spareApart_0, vb_X12_spareApart_20, vb_X12_spareApart_44, vb_X12_spareApart_47, vb_X12_spareApart_76, vb_X12_spareApart_97, vb_X12_spareApart_104, vb_X12_spareApart_174, vb_X12_spareApart_180, xI_0, xI_1, xI_3, xI_6, xI_7, xI_8, xI_14, xI_16, xI_36, xI_44, xI_46, xI_47, xI_49, xI_51, xI_52, xI_60, xI_61, xI_62, xw_X12_spareApart_0, xw_X12_spareApart_20, xw_X12_spareApart_44, xw_X12_spareApart_47, xw_X12_spareApart_76, xw_X12_spareApart_97, xw_X12_spareApart_104, xw_X12_spareApart_174, xw_X12_spareApart_180, zw_lit, xB_c, xB_s, xB_n, i1_c, j2_c, k1_c, jJ_e, xlg, xls, xla, xpd, ppush, zw_m1, zw_m2, zw_m3, gf_12_0, gf_12_16, gf_12_43, tg_12_0, tg_12_16, tg_12_43, gv_590_0, gv_590_16, gv_590_43, xD1, xD2, xD3, xD4, xD5, xD6, xb1_0, q, q'] at h
      rw [show (nn - i).toNat = 0 by omega]
      rw [hR m hm.1 (by omega)] at h
      exact ⟨H, fun _ _ => rfl, h⟩
    · have q' : i < nn := by omega
      have h := xw_top (hd := [76, 47]) 11 xD6_ok xc_X12_spareApart xa_X12_spareApart (t := 47) rfl h
      simp (maxDischargeDepth := 12) -implicitDefEqProofs [vb_X12_spareApart_0, vb_X12_spareApart_20, vb_X12_spareApart_44, vb_X12_spareApart_47, vb_X12_spareApart_76, vb_X12_spareApart_97, vb_X12_spareApart_104, vb_X12_spareApart_174, vb_X12_spareApart_180, xI_0, xI_1, xI_3, xI_6, xI_7, xI_8, xI_14, xI_16, xI_36, xI_44, xI_46, xI_47, xI_49, xI_51, xI_52, xI_60, xI_61, xI_62, xw_X12_spareApart_0, xw_X12_spareApart_20, xw_X12_spareApart_44, xw_X12_spareApart_47, xw_X12_spareApart_76, xw_X12_spareApart_97, xw_X12_spareApart_104, xw_X12_spareApart_174, xw_X12_spareApart_180, zw_lit, xB_c, xB_s, xB_n, i1_c, j2_c, k1_c, jJ_e, xlg, xls, xla, xpd, ppush, zw_m1, zw_m2, zw_m3, gf_12_0, gf_12_16, gf_12_43, tg_12_0, tg_12_16, tg_12_43, gv_590_0, gv_590_16, gv_590_43, xD1, xD2, xD3, xD4, xD5, xD6, xb1_0, z1, z2, q, q'] at h
      obtain ⟨m', hm', h⟩ := h
      obtain ⟨H1, a1, b1, c1, g1, g2, m2, hm2, g3⟩ := sq_in nn w b m i (g i) A hm ⟨hi0, by omega⟩ hb hk m' _ 0 _ (xup R 0 (2 * i + 2)) _ (by omega) (by omega) ((xp_ne (by decide)).trans hA) (by rw [xp_ne (by decide)]; exact hG i hi0 q') (fun x x0 x1 => by
        rw [xp_at]
        unfold xup
        split
        · rfl
        · exact hR x x0 x1) h
      rw [hR 0 (by omega) (by omega), Int.sub_zero] at g1
      obtain ⟨H', k1, k2⟩ := ih m2 (by omega) (i + 1) a1 b1 c1 _ H1 (by omega) (by omega) (by rw [g2 591 (by decide), xp_ne (by decide)]; exact hA) (fun x x0 x1 => by rw [g2 616 (by decide), xp_ne (by decide)]; exact hG x x0 x1) g1 g3
      rw [show (nn - i).toNat = (nn - (i + 1)).toNat + 1 by omega]
      exact ⟨H', fun c hc => by rw [k1 c hc, g2 c hc, xp_ne hc], k2⟩
set_option maxRecDepth 100000 in
theorem sp_X12_spareApart (nn w b : Int) (A g : Int → Int) (H : PH) (hA : H 591 = A) (hB : MB A) (hn : 0 ≤ nn ∧ nn ≤ 8) (hb : 0 ≤ b ∧ b < 12) (hG : ∀ x, 0 ≤ x → x < nn → (if x = w then 46 else H 616 x) = g x) : SPEC 249 [(2, 590), (0, nn), (0, w), (0, b)] H (fun r H' => r = some (0, wnA A g nn b) ∧ ∀ c, ¬ c = 599 → H' c = H c) := by
  intro E n res h
  have z1 : zw (26 * b) = 26 * b := zw_lit (by omega) (by omega)
  have z2 : zw (92 + 26 * b) = 92 + 26 * b := zw_lit (by omega) (by omega)
  have hl := hB.2.2.2.1 b hb.1 hb.2
  have h := call_runP 10 vm_X12_spareApart h
  have h := xw_top (hd := [20]) 11 xD6_ok xc_X12_spareApart xa_X12_spareApart (t := 0) rfl h
  simp (maxDischargeDepth := 12) -implicitDefEqProofs [vb_X12_spareApart_0, vb_X12_spareApart_20, vb_X12_spareApart_44, vb_X12_spareApart_47, vb_X12_spareApart_76, vb_X12_spareApart_97, vb_X12_spareApart_104, vb_X12_spareApart_174, vb_X12_spareApart_180, xI_0, xI_1, xI_3, xI_6, xI_7, xI_8, xI_14, xI_16, xI_36, xI_44, xI_46, xI_47, xI_49, xI_51, xI_52, xI_60, xI_61, xI_62, xw_X12_spareApart_0, xw_X12_spareApart_20, xw_X12_spareApart_44, xw_X12_spareApart_47, xw_X12_spareApart_76, xw_X12_spareApart_97, xw_X12_spareApart_104, xw_X12_spareApart_174, xw_X12_spareApart_180, zw_lit, xB_c, xB_s, xB_n, i1_c, j2_c, k1_c, jJ_e, xlg, xls, xla, xpd, ppush, zw_m1, zw_m2, zw_m3, gf_12_0, gf_12_16, gf_12_43, tg_12_0, tg_12_16, tg_12_43, gv_590_0, gv_590_16, gv_590_43, xD1, xD2, xD3, xD4, xD5, xD6, xb1_0, hA, z1, z2] at h
  obtain ⟨m, hm, h⟩ := h
  obtain ⟨H1, g1, g2, m1, hm1, g3⟩ := sq_init nn w b _ _ hl m 0 0 0 0 H (by omega) (by omega) (fun x x0 x1 => by omega) h
  obtain ⟨H', k1, k2⟩ := sq_out nn w b _ A g hl hn hb hB.2.1 m1 0 0 0 0 (fun j => 2 * j) H1 (by omega) (by omega) ((g2 591 (by decide)).trans hA) (fun x x0 x1 => by rw [g2 616 (by decide)]; exact hG x x0 x1) g1 g3
  rw [Int.sub_zero] at k2
  exact ⟨_, H', k2, rfl, fun c hc => by rw [k1 c hc, g2 c hc]⟩
/-- the first nearest one, if it alone is near enough -/
def nrV (A : Int → Int) (t : nS) : Int := if t.1 = 1 ∧ t.2.2 ≤ A 3 then t.2.1 else -1
set_option maxRecDepth 100000 in
theorem lp_rsp (nn w : Int) (A g : Int → Int) (hB : MB A) (hn : 0 ≤ nn ∧ nn ≤ 8) {E : xE} {res : xR} : ∀ (n : Nat) (b v : Int) (t : nS) (H : PH), 0 ≤ b → b ≤ A 0 → 0 ≤ t.1 → t.1 ≤ b → H 591 = A → (∀ x, 0 ≤ x → x < nn → (if x = w then 46 else H 616 x) = g x) → RUN E res n kd_X12_readSpare (zget kd_X12_readSpare 11) 11 [590, nn, w, t.2.2, t.2.1, t.1, b, v] [] H → ∃ H' : PH, (∀ c, ¬ c = 599 → H' c = H c) ∧ REPR E res (some (0, nrV A (nrF (wnA A g nn) (A 0 - b).toNat b t))) H' := by
  intro n
  induction n using Nat.strongRecOn with
  | _ n ih =>
    intro b v t H b0 b1 t0 t1 hA hG h
    have a0 := hB.1
    have z1 : zw (b + 1) = b + 1 := zw_lit (by omega) (by omega)
    have zm : zw (t.1 + 1) = t.1 + 1 := zw_lit (by omega) (by omega)
    by_cases c : b < A 0
    · have c' : ¬ A 0 ≤ b := by omega
      have st : (A 0 - b).toNat = (A 0 - (b + 1)).toNat + 1 := by omega
      rw [st]
      unfold nrF
      have h := xw_top (hd := [11]) 13 xD6_ok xc_X12_readSpare xa_X12_readSpare (t := 11) rfl h
      simp (maxDischargeDepth := 12) -implicitDefEqProofs [vb_X12_readSpare_0, vb_X12_readSpare_11, vb_X12_readSpare_46, vb_X12_readSpare_64, vb_X12_readSpare_65, vb_X12_readSpare_78, vb_X12_readSpare_80, vb_X12_readSpare_85, vb_X12_readSpare_91, vb_X12_readSpare_112, vb_X12_readSpare_113, xI_0, xI_1, xI_3, xI_6, xI_7, xI_14, xI_36, xI_42, xI_44, xI_46, xI_47, xI_48, xI_49, xI_51, xI_61, xI_62, xw_X12_readSpare_0, xw_X12_readSpare_11, xw_X12_readSpare_46, xw_X12_readSpare_64, xw_X12_readSpare_65, xw_X12_readSpare_78, xw_X12_readSpare_80, xw_X12_readSpare_85, xw_X12_readSpare_91, xw_X12_readSpare_112, xw_X12_readSpare_113, zw_lit, xB_c, xB_s, xB_n, i1_c, j2_c, k1_c, jJ_e, xlg, xls, xla, xpd, ppush, zw_m1, zw_m2, zw_m3, gf_12_0, tg_12_0, gv_590_0, xD1, xD2, xD3, xD4, xD5, xD6, xb1_0, hA, c, c'] at h
      obtain ⟨r, H1, ⟨rfl, hf⟩, h⟩ := xc_use h (sp_X12_spareApart nn w b A g H hA hB hn ⟨b0, by omega⟩ hG)
      have eA : H1 591 = A := (hf 591 (by decide)).trans hA
      have eG : ∀ x, 0 ≤ x → x < nn → (if x = w then 46 else H1 616 x) = g x := fun x x0 x1 => by rw [hf 616 (by decide)]; exact hG x x0 x1
      have nx : ∀ (u : nS) (k : Nat) (y : Int), k < n → u = nrS (wnA A g nn) b t → 0 ≤ u.1 → u.1 ≤ b + 1 → RUN E res k kd_X12_readSpare (zget kd_X12_readSpare 11) 11 [590, nn, w, u.2.2, u.2.1, u.1, b + 1, y] [] H1 → ∃ H' : PH, (∀ c, ¬ c = 599 → H' c = H c) ∧ REPR E res (some (0, nrV A (nrF (wnA A g nn) (A 0 - (b + 1)).toNat (b + 1) (nrS (wnA A g nn) b t)))) H' := by
        intro u k y hk e u0 u1 h
        rw [← e]
        obtain ⟨H', f2, g⟩ := ih k hk (b + 1) y u H1 (by omega) (by omega) u0 u1 eA eG h
        exact ⟨H', fun d hd => (f2 d hd).trans (hf d hd), g⟩
      by_cases p : 0 < t.1
      · have p' : ¬ t.1 ≤ 0 := by omega
        by_cases q : t.2.2 < wnA A g nn b
        · have q' : ¬ wnA A g nn b ≤ t.2.2 := by omega
          simp (maxDischargeDepth := 12) -implicitDefEqProofs [vb_X12_readSpare_0, vb_X12_readSpare_11, vb_X12_readSpare_46, vb_X12_readSpare_64, vb_X12_readSpare_65, vb_X12_readSpare_78, vb_X12_readSpare_80, vb_X12_readSpare_85, vb_X12_readSpare_91, vb_X12_readSpare_112, vb_X12_readSpare_113, xI_0, xI_1, xI_3, xI_6, xI_7, xI_14, xI_36, xI_42, xI_44, xI_46, xI_47, xI_48, xI_49, xI_51, xI_61, xI_62, xw_X12_readSpare_0, xw_X12_readSpare_11, xw_X12_readSpare_46, xw_X12_readSpare_64, xw_X12_readSpare_65, xw_X12_readSpare_78, xw_X12_readSpare_80, xw_X12_readSpare_85, xw_X12_readSpare_91, xw_X12_readSpare_112, xw_X12_readSpare_113, zw_lit, xB_c, xB_s, xB_n, i1_c, j2_c, k1_c, jJ_e, xlg, xls, xla, xpd, ppush, zw_m1, zw_m2, zw_m3, gf_12_0, tg_12_0, gv_590_0, xD1, xD2, xD3, xD4, xD5, xD6, xb1_0, p, p', q, q', z1] at h
          obtain ⟨k, hk, h⟩ := h
          exact nx t k _ hk (by unfold nrS; simp only [if_pos (show 0 < t.1 ∧ t.2.2 < wnA A g nn b from ⟨p, q⟩)]) t0 (by omega) h
        · have q' : wnA A g nn b ≤ t.2.2 := by omega
          have nq : ¬ (0 < t.1 ∧ t.2.2 < wnA A g nn b) := fun w => q w.2
          by_cases e : wnA A g nn b = t.2.2
          · have e' : (wnA A g nn b = t.2.2) = True := eq_true e
            have n1 : ¬ t.1 + 1 = 1 := by omega
            simp (maxDischargeDepth := 12) -implicitDefEqProofs [vb_X12_readSpare_0, vb_X12_readSpare_11, vb_X12_readSpare_46, vb_X12_readSpare_64, vb_X12_readSpare_65, vb_X12_readSpare_78, vb_X12_readSpare_80, vb_X12_readSpare_85, vb_X12_readSpare_91, vb_X12_readSpare_112, vb_X12_readSpare_113, xI_0, xI_1, xI_3, xI_6, xI_7, xI_14, xI_36, xI_42, xI_44, xI_46, xI_47, xI_48, xI_49, xI_51, xI_61, xI_62, xw_X12_readSpare_0, xw_X12_readSpare_11, xw_X12_readSpare_46, xw_X12_readSpare_64, xw_X12_readSpare_65, xw_X12_readSpare_78, xw_X12_readSpare_80, xw_X12_readSpare_85, xw_X12_readSpare_91, xw_X12_readSpare_112, xw_X12_readSpare_113, zw_lit, xB_c, xB_s, xB_n, i1_c, j2_c, k1_c, jJ_e, xlg, xls, xla, xpd, ppush, zw_m1, zw_m2, zw_m3, gf_12_0, tg_12_0, gv_590_0, xD1, xD2, xD3, xD4, xD5, xD6, xb1_0, p, p', q, q', e', zm, n1, z1] at h
            obtain ⟨k, hk, h⟩ := h
            exact nx (t.1 + 1, t.2.1, wnA A g nn b) k _ hk (by unfold nrS; simp only [if_neg nq, if_pos (show 0 < t.1 ∧ wnA A g nn b = t.2.2 from ⟨p, e⟩)]) (by show 0 ≤ t.1 + 1; omega) (by show t.1 + 1 ≤ b + 1; omega) h
          · simp (maxDischargeDepth := 12) -implicitDefEqProofs [vb_X12_readSpare_0, vb_X12_readSpare_11, vb_X12_readSpare_46, vb_X12_readSpare_64, vb_X12_readSpare_65, vb_X12_readSpare_78, vb_X12_readSpare_80, vb_X12_readSpare_85, vb_X12_readSpare_91, vb_X12_readSpare_112, vb_X12_readSpare_113, xI_0, xI_1, xI_3, xI_6, xI_7, xI_14, xI_36, xI_42, xI_44, xI_46, xI_47, xI_48, xI_49, xI_51, xI_61, xI_62, xw_X12_readSpare_0, xw_X12_readSpare_11, xw_X12_readSpare_46, xw_X12_readSpare_64, xw_X12_readSpare_65, xw_X12_readSpare_78, xw_X12_readSpare_80, xw_X12_readSpare_85, xw_X12_readSpare_91, xw_X12_readSpare_112, xw_X12_readSpare_113, zw_lit, xB_c, xB_s, xB_n, i1_c, j2_c, k1_c, jJ_e, xlg, xls, xla, xpd, ppush, zw_m1, zw_m2, zw_m3, gf_12_0, tg_12_0, gv_590_0, xD1, xD2, xD3, xD4, xD5, xD6, xb1_0, p, p', q, q', e, z1] at h
            obtain ⟨k, hk, h⟩ := h
            exact nx (1, b, wnA A g nn b) k _ hk (by unfold nrS; simp only [if_neg nq, if_neg (show ¬ (0 < t.1 ∧ wnA A g nn b = t.2.2) from fun w => e w.2)]) (by show (0 : Int) ≤ 1; decide) (by show 1 ≤ b + 1; omega) h
      · have p' : t.1 ≤ 0 := by omega
        simp (maxDischargeDepth := 12) -implicitDefEqProofs [vb_X12_readSpare_0, vb_X12_readSpare_11, vb_X12_readSpare_46, vb_X12_readSpare_64, vb_X12_readSpare_65, vb_X12_readSpare_78, vb_X12_readSpare_80, vb_X12_readSpare_85, vb_X12_readSpare_91, vb_X12_readSpare_112, vb_X12_readSpare_113, xI_0, xI_1, xI_3, xI_6, xI_7, xI_14, xI_36, xI_42, xI_44, xI_46, xI_47, xI_48, xI_49, xI_51, xI_61, xI_62, xw_X12_readSpare_0, xw_X12_readSpare_11, xw_X12_readSpare_46, xw_X12_readSpare_64, xw_X12_readSpare_65, xw_X12_readSpare_78, xw_X12_readSpare_80, xw_X12_readSpare_85, xw_X12_readSpare_91, xw_X12_readSpare_112, xw_X12_readSpare_113, zw_lit, xB_c, xB_s, xB_n, i1_c, j2_c, k1_c, jJ_e, xlg, xls, xla, xpd, ppush, zw_m1, zw_m2, zw_m3, gf_12_0, tg_12_0, gv_590_0, xD1, xD2, xD3, xD4, xD5, xD6, xb1_0, p, p', z1] at h
        obtain ⟨k, hk, h⟩ := h
        exact nx (1, b, wnA A g nn b) k _ hk (by unfold nrS; simp only [if_neg (show ¬ (0 < t.1 ∧ t.2.2 < wnA A g nn b) from fun w => p w.1), if_neg (show ¬ (0 < t.1 ∧ wnA A g nn b = t.2.2) from fun w => p w.1)]) (by show (0 : Int) ≤ 1; decide) (by show 1 ≤ b + 1; omega) h
    · have c' : A 0 ≤ b := by omega
      rw [show (A 0 - b).toNat = 0 by omega]
      have er : nrF (wnA A g nn) 0 b t = t := rfl
      rw [er]
      by_cases p : t.1 = 1
      · by_cases q : t.2.2 ≤ A 3
        · have q' : ¬ A 3 < t.2.2 := by omega
          have ev : nrV A t = t.2.1 := if_pos ⟨p, q⟩
          rw [ev]
          have h := xw_top (hd := [11]) 13 xD6_ok xc_X12_readSpare xa_X12_readSpare (t := 11) rfl h
          simp (maxDischargeDepth := 12) -implicitDefEqProofs [vb_X12_readSpare_0, vb_X12_readSpare_11, vb_X12_readSpare_46, vb_X12_readSpare_64, vb_X12_readSpare_65, vb_X12_readSpare_78, vb_X12_readSpare_80, vb_X12_readSpare_85, vb_X12_readSpare_91, vb_X12_readSpare_112, vb_X12_readSpare_113, xI_0, xI_1, xI_3, xI_6, xI_7, xI_14, xI_36, xI_42, xI_44, xI_46, xI_47, xI_48, xI_49, xI_51, xI_61, xI_62, xw_X12_readSpare_0, xw_X12_readSpare_11, xw_X12_readSpare_46, xw_X12_readSpare_64, xw_X12_readSpare_65, xw_X12_readSpare_78, xw_X12_readSpare_80, xw_X12_readSpare_85, xw_X12_readSpare_91, xw_X12_readSpare_112, xw_X12_readSpare_113, zw_lit, xB_c, xB_s, xB_n, i1_c, j2_c, k1_c, jJ_e, xlg, xls, xla, xpd, ppush, zw_m1, zw_m2, zw_m3, gf_12_0, tg_12_0, gv_590_0, xD1, xD2, xD3, xD4, xD5, xD6, xb1_0, hA, c, c', p, q, q'] at h
          exact ⟨H, fun _ _ => rfl, h⟩
        · have q' : A 3 < t.2.2 := by omega
          have ev : nrV A t = -1 := if_neg (fun w => q w.2)
          rw [ev]
          have h := xw_top (hd := [11]) 13 xD6_ok xc_X12_readSpare xa_X12_readSpare (t := 11) rfl h
          simp (maxDischargeDepth := 12) -implicitDefEqProofs [vb_X12_readSpare_0, vb_X12_readSpare_11, vb_X12_readSpare_46, vb_X12_readSpare_64, vb_X12_readSpare_65, vb_X12_readSpare_78, vb_X12_readSpare_80, vb_X12_readSpare_85, vb_X12_readSpare_91, vb_X12_readSpare_112, vb_X12_readSpare_113, xI_0, xI_1, xI_3, xI_6, xI_7, xI_14, xI_36, xI_42, xI_44, xI_46, xI_47, xI_48, xI_49, xI_51, xI_61, xI_62, xw_X12_readSpare_0, xw_X12_readSpare_11, xw_X12_readSpare_46, xw_X12_readSpare_64, xw_X12_readSpare_65, xw_X12_readSpare_78, xw_X12_readSpare_80, xw_X12_readSpare_85, xw_X12_readSpare_91, xw_X12_readSpare_112, xw_X12_readSpare_113, zw_lit, xB_c, xB_s, xB_n, i1_c, j2_c, k1_c, jJ_e, xlg, xls, xla, xpd, ppush, zw_m1, zw_m2, zw_m3, gf_12_0, tg_12_0, gv_590_0, xD1, xD2, xD3, xD4, xD5, xD6, xb1_0, hA, c, c', p, q, q'] at h
          exact ⟨H, fun _ _ => rfl, h⟩
      · have ev : nrV A t = -1 := if_neg (fun w => p w.1)
        rw [ev]
        have h := xw_top (hd := [11]) 13 xD6_ok xc_X12_readSpare xa_X12_readSpare (t := 11) rfl h
        simp (maxDischargeDepth := 12) -implicitDefEqProofs [vb_X12_readSpare_0, vb_X12_readSpare_11, vb_X12_readSpare_46, vb_X12_readSpare_64, vb_X12_readSpare_65, vb_X12_readSpare_78, vb_X12_readSpare_80, vb_X12_readSpare_85, vb_X12_readSpare_91, vb_X12_readSpare_112, vb_X12_readSpare_113, xI_0, xI_1, xI_3, xI_6, xI_7, xI_14, xI_36, xI_42, xI_44, xI_46, xI_47, xI_48, xI_49, xI_51, xI_61, xI_62, xw_X12_readSpare_0, xw_X12_readSpare_11, xw_X12_readSpare_46, xw_X12_readSpare_64, xw_X12_readSpare_65, xw_X12_readSpare_78, xw_X12_readSpare_80, xw_X12_readSpare_85, xw_X12_readSpare_91, xw_X12_readSpare_112, xw_X12_readSpare_113, zw_lit, xB_c, xB_s, xB_n, i1_c, j2_c, k1_c, jJ_e, xlg, xls, xla, xpd, ppush, zw_m1, zw_m2, zw_m3, gf_12_0, tg_12_0, gv_590_0, xD1, xD2, xD3, xD4, xD5, xD6, xb1_0, hA, c, c', p] at h
        exact ⟨H, fun _ _ => rfl, h⟩
theorem nrV_rd {A f : Int → Int} {b : Int} (hb : 0 ≤ b) : (nrV A (nrF f (A 0).toNat 0 (0, -1, 0)) = b) ↔ rdM f (A 0) (A 3) = b := by
  have h := rbF_n (most := A 3) (f := f) (A 0).toNat 0 (0, -1, 0) (-3, A 3 + 1) (by omega) (Or.inl ⟨rfl, rfl, rfl⟩)
  have er : rdM f (A 0) (A 3) = (rbF f (A 0).toNat 0 (-3, A 3 + 1)).1 := rfl
  rw [er]
  generalize nrF f (A 0).toNat 0 (0, -1, 0) = t at h ⊢
  generalize rbF f (A 0).toNat 0 (-3, A 3 + 1) = s at h ⊢
  unfold nrV
  rcases h with ⟨h1, h2, h3⟩ | ⟨h1, h2, h3, h4⟩ | ⟨h1, h2, h3, h4, h5⟩ | ⟨h1, h2, h3, h4⟩
  · rw [if_neg (by omega)]
    omega
  · rw [if_neg (by omega)]
    omega
  · rw [if_pos ⟨h1, h2⟩, h3]
  · rw [if_neg (by omega)]
    omega
set_option maxRecDepth 100000 in
theorem sp_X12_readSpare (nn w : Int) (A g : Int → Int) (H : PH) (hA : H 591 = A) (hB : MB A) (hn : 0 ≤ nn ∧ nn ≤ 8) (hG : ∀ x, 0 ≤ x → x < nn → (if x = w then 46 else H 616 x) = g x) : SPEC 248 [(2, 590), (0, nn), (0, w)] H (fun r H' => r = some (0, nrV A (nrF (wnA A g nn) (A 0).toNat 0 (0, -1, 0))) ∧ ∀ c, ¬ c = 599 → H' c = H c) := by
  intro E n res h
  have h := call_runP 8 vm_X12_readSpare h
  have h := xw_top (hd := [11]) 13 xD6_ok xc_X12_readSpare xa_X12_readSpare (t := 0) rfl h
  simp (maxDischargeDepth := 12) -implicitDefEqProofs [vb_X12_readSpare_0, vb_X12_readSpare_11, vb_X12_readSpare_46, vb_X12_readSpare_64, vb_X12_readSpare_65, vb_X12_readSpare_78, vb_X12_readSpare_80, vb_X12_readSpare_85, vb_X12_readSpare_91, vb_X12_readSpare_112, vb_X12_readSpare_113, xI_0, xI_1, xI_3, xI_6, xI_7, xI_14, xI_36, xI_42, xI_44, xI_46, xI_47, xI_48, xI_49, xI_51, xI_61, xI_62, xw_X12_readSpare_0, xw_X12_readSpare_11, xw_X12_readSpare_46, xw_X12_readSpare_64, xw_X12_readSpare_65, xw_X12_readSpare_78, xw_X12_readSpare_80, xw_X12_readSpare_85, xw_X12_readSpare_91, xw_X12_readSpare_112, xw_X12_readSpare_113, zw_lit, xB_c, xB_s, xB_n, i1_c, j2_c, k1_c, jJ_e, xlg, xls, xla, xpd, ppush, zw_m1, zw_m2, zw_m3, gf_12_0, tg_12_0, gv_590_0, xD1, xD2, xD3, xD4, xD5, xD6, xb1_0] at h
  obtain ⟨m, hm, h⟩ := h
  obtain ⟨H', f, h⟩ := lp_rsp nn w A g hB hn m 0 0 (0, -1, 0) H (by omega) hB.1.1 (Int.le_refl _) (Int.le_refl _) hA hG h
  rw [Int.sub_zero] at h
  exact ⟨_, H', h, rfl, f⟩
set_option maxRecDepth 100000 in
theorem lp_cpy (b w y1 y2 i : Int) (A : Int → Int) (hB : MB A) (hb : 0 ≤ b ∧ b < 12) {E : xE} {res : xR} : ∀ (n : Nat) (k : Int) (H : PH), 0 ≤ k → k ≤ A (92 + 26 * b) → H 591 = A → (∀ x, 0 ≤ x → x < k → H 616 x = A (92 + 26 * b + 1 + x)) → RUN E res n kd_X12_worn (zget kd_X12_worn 50) 50 [590, b, w, 92 + 26 * b, y1, y2, i, k] [] H → ∃ H' : PH, (∀ x, 0 ≤ x → x < A (92 + 26 * b) → H' 616 x = A (92 + 26 * b + 1 + x)) ∧ (∀ c, ¬ c = 616 → H' c = H c) ∧ ∃ k', xJ E res n kd_X12_worn 87 [590, b, w, 92 + 26 * b, y1, y2, i, k'] [] H' := by
  intro n
  induction n using Nat.strongRecOn with
  | _ n ih =>
    intro k H k0 k1 hA hR h
    have hl := hB.2.2.2.1 b hb.1 hb.2
    have z0 : zw (92 + 26 * b) = 92 + 26 * b := zw_lit (by omega) (by omega)
    have z1 : zw (k + 1) = k + 1 := zw_lit (by omega) (by omega)
    have z2 : zw (92 + 26 * b + 1) = 92 + 26 * b + 1 := zw_lit (by omega) (by omega)
    have z3 : zw (92 + 26 * b + 1 + k) = 92 + 26 * b + 1 + k := zw_lit (by omega) (by omega)
    by_cases c : k < A (92 + 26 * b)
    · have c' : ¬ A (92 + 26 * b) ≤ k := by omega
      have h := xw_top (hd := [50, 87]) 15 xD6_ok xc_X12_worn xa_X12_worn (t := 50) rfl h
      simp (maxDischargeDepth := 12) -implicitDefEqProofs [vb_X12_worn_0, vb_X12_worn_17, vb_X12_worn_20, vb_X12_worn_34, vb_X12_worn_50, vb_X12_worn_87, vb_X12_worn_108, vb_X12_worn_122, vb_X12_worn_124, vb_X12_worn_126, vb_X12_worn_132, vb_X12_worn_141, vb_X12_worn_143, xI_0, xI_1, xI_3, xI_6, xI_7, xI_8, xI_14, xI_36, xI_37, xI_38, xI_44, xI_46, xI_49, xI_51, xI_52, xI_60, xI_61, xI_62, xw_X12_worn_0, xw_X12_worn_17, xw_X12_worn_20, xw_X12_worn_34, xw_X12_worn_50, xw_X12_worn_87, xw_X12_worn_108, xw_X12_worn_122, xw_X12_worn_124, xw_X12_worn_126, xw_X12_worn_132, xw_X12_worn_141, xw_X12_worn_143, zw_lit, xB_c, xB_s, xB_n, i1_c, j2_c, k1_c, jJ_e, xlg, xls, xla, xpd, ppush, zw_m1, zw_m2, zw_m3, gf_12_0, gf_12_43, tg_12_0, tg_12_43, gv_590_0, gv_590_43, xD1, xD2, xD3, xD4, xD5, xD6, xb1_0, hA, z0, z1, z2, z3, c, c'] at h
      obtain ⟨m, hm, h⟩ := h
      obtain ⟨H', g1, g2, k', g3⟩ := ih m hm (k + 1) _ (by omega) (by omega) ((xp_ne (by decide)).trans hA) (fun x x0 x1 => by
        rw [xp_at]
        by_cases e : x = k
        · rw [if_pos e, e]
        · rw [if_neg e]
          exact hR x x0 (by omega)) h
      exact ⟨H', g1, fun c hc => by rw [g2 c hc, xp_ne hc], k', xJ_up g3 (by omega)⟩
    · have c' : A (92 + 26 * b) ≤ k := by omega
      have h := xw_top (hd := [50, 87]) 15 xD6_ok xc_X12_worn xa_X12_worn (t := 50) rfl h
      simp (maxDischargeDepth := 12) -implicitDefEqProofs [vb_X12_worn_0, vb_X12_worn_17, vb_X12_worn_20, vb_X12_worn_34, vb_X12_worn_50, vb_X12_worn_87, vb_X12_worn_108, vb_X12_worn_122, vb_X12_worn_124, vb_X12_worn_126, vb_X12_worn_132, vb_X12_worn_141, vb_X12_worn_143, xI_0, xI_1, xI_3, xI_6, xI_7, xI_8, xI_14, xI_36, xI_37, xI_38, xI_44, xI_46, xI_49, xI_51, xI_52, xI_60, xI_61, xI_62, xw_X12_worn_0, xw_X12_worn_17, xw_X12_worn_20, xw_X12_worn_34, xw_X12_worn_50, xw_X12_worn_87, xw_X12_worn_108, xw_X12_worn_122, xw_X12_worn_124, xw_X12_worn_126, xw_X12_worn_132, xw_X12_worn_141, xw_X12_worn_143, zw_lit, xB_c, xB_s, xB_n, i1_c, j2_c, k1_c, jJ_e, xlg, xls, xla, xpd, ppush, zw_m1, zw_m2, zw_m3, gf_12_0, gf_12_43, tg_12_0, tg_12_43, gv_590_0, gv_590_43, xD1, xD2, xD3, xD4, xD5, xD6, xb1_0, hA, z0, c, c'] at h
      exact ⟨H, fun x x0 x1 => hR x x0 (by omega), fun _ _ => rfl, _, h⟩
set_option maxRecDepth 100000 in
theorem lp_mwn (b w : Int) (A : Int → Int) (hB : MB A) (hb : 0 ≤ b ∧ b < A 0) (hw : 0 ≤ w ∧ w ≤ 1) {E : xE} {res : xR} : ∀ (n : Nat) (i y : Int) (s : Int × Int) (H : PH), 0 ≤ i → i ≤ A (92 + 26 * b) → 0 ≤ s.1 → s.1 ≤ i → H 591 = A → RUN E res n kd_X12_worn (zget kd_X12_worn 34) 34 [590, b, w, 92 + 26 * b, s.1, s.2, i, y] [] H → ∃ H' : PH, SCm [599, 616] [] H H' ∧ REPR E res (some (0, if w = 0 then (wrF A b (A (92 + 26 * b) - i).toNat i s).1 else (wrF A b (A (92 + 26 * b) - i).toNat i s).2)) H' := by
  intro n
  induction n using Nat.strongRecOn with
  | _ n ih =>
    intro i y s H i0 i1 m0 m1 hA h
    have a0 := hB.1
    have hl := hB.2.2.2.1 b hb.1 (by omega)
    have z0 : zw (92 + 26 * b) = 92 + 26 * b := zw_lit (by omega) (by omega)
    have z1 : zw (i + 1) = i + 1 := zw_lit (by omega) (by omega)
    have zm : zw (s.1 + 1) = s.1 + 1 := zw_lit (by omega) (by omega)
    by_cases c : i < A (92 + 26 * b)
    · have c' : ¬ A (92 + 26 * b) ≤ i := by omega
      have st : (A (92 + 26 * b) - i).toNat = (A (92 + 26 * b) - (i + 1)).toNat + 1 := by omega
      rw [st]
      unfold wrF
      have h := xw_top (hd := [34, 50]) 15 xD6_ok xc_X12_worn xa_X12_worn (t := 34) rfl h
      simp (maxDischargeDepth := 12) -implicitDefEqProofs [vb_X12_worn_0, vb_X12_worn_17, vb_X12_worn_20, vb_X12_worn_34, vb_X12_worn_50, vb_X12_worn_87, vb_X12_worn_108, vb_X12_worn_122, vb_X12_worn_124, vb_X12_worn_126, vb_X12_worn_132, vb_X12_worn_141, vb_X12_worn_143, xI_0, xI_1, xI_3, xI_6, xI_7, xI_8, xI_14, xI_36, xI_37, xI_38, xI_44, xI_46, xI_49, xI_51, xI_52, xI_60, xI_61, xI_62, xw_X12_worn_0, xw_X12_worn_17, xw_X12_worn_20, xw_X12_worn_34, xw_X12_worn_50, xw_X12_worn_87, xw_X12_worn_108, xw_X12_worn_122, xw_X12_worn_124, xw_X12_worn_126, xw_X12_worn_132, xw_X12_worn_141, xw_X12_worn_143, zw_lit, xB_c, xB_s, xB_n, i1_c, j2_c, k1_c, jJ_e, xlg, xls, xla, xpd, ppush, zw_m1, zw_m2, zw_m3, gf_12_0, gf_12_43, tg_12_0, tg_12_43, gv_590_0, gv_590_43, xD1, xD2, xD3, xD4, xD5, xD6, xb1_0, hA, z0, c, c'] at h
      obtain ⟨m, hm, h⟩ := h
      obtain ⟨H1, g1, g2, k', m2, hm2, h⟩ := lp_cpy b w _ _ i A hB ⟨hb.1, by omega⟩ m 0 H (by omega) hl.1 hA (fun x x0 x1 => by omega) h
      have eA : H1 591 = A := (g2 591 (by decide)).trans hA
      have h := xw_top (hd := [34, 87]) 15 xD6_ok xc_X12_worn xa_X12_worn (t := 87) rfl h
      simp (maxDischargeDepth := 12) -implicitDefEqProofs [vb_X12_worn_0, vb_X12_worn_17, vb_X12_worn_20, vb_X12_worn_34, vb_X12_worn_50, vb_X12_worn_87, vb_X12_worn_108, vb_X12_worn_122, vb_X12_worn_124, vb_X12_worn_126, vb_X12_worn_132, vb_X12_worn_141, vb_X12_worn_143, xI_0, xI_1, xI_3, xI_6, xI_7, xI_8, xI_14, xI_36, xI_37, xI_38, xI_44, xI_46, xI_49, xI_51, xI_52, xI_60, xI_61, xI_62, xw_X12_worn_0, xw_X12_worn_17, xw_X12_worn_20, xw_X12_worn_34, xw_X12_worn_50, xw_X12_worn_87, xw_X12_worn_108, xw_X12_worn_122, xw_X12_worn_124, xw_X12_worn_126, xw_X12_worn_132, xw_X12_worn_141, xw_X12_worn_143, zw_lit, xB_c, xB_s, xB_n, i1_c, j2_c, k1_c, jJ_e, xlg, xls, xla, xpd, ppush, zw_m1, zw_m2, zw_m3, gf_12_0, gf_12_43, tg_12_0, tg_12_43, gv_590_0, gv_590_43, xD1, xD2, xD3, xD4, xD5, xD6, xb1_0, eA, z0] at h
      obtain ⟨r, H2, ⟨rfl, hf⟩, g⟩ := xc_use h (sp_X12_readSpare _ i A (wrf A b i) H1 eA hB hl (fun x x0 x1 => by
        unfold wrf
        by_cases e : x = i
        · rw [if_pos e, if_pos e]
        · rw [if_neg e, if_neg e]
          exact g1 x x0 x1))
      have eA2 : H2 591 = A := (hf 591 (by decide)).trans eA
      have fr : SCm [599, 616] [] H H2 := ⟨fun d p q => (hf d (fun e => p (by rw [e]; decide))).trans (g2 d (fun e => p (by rw [e]; decide))), fun j _ => by rw [hf 590 (by decide), g2 590 (by decide)]⟩
      have iv := nrV_rd (A := A) (f := wnA A (wrf A b i) (A (92 + 26 * b))) hb.1
      by_cases q : rdM (wnA A (wrf A b i) (A (92 + 26 * b))) (A 0) (A 3) = b
      · have q' : (nrV A (nrF (wnA A (wrf A b i) (A (92 + 26 * b))) (A 0).toNat 0 (0, -1, 0)) = b) = True := eq_true (iv.mpr q)
        have es : wrS A b i s = s := if_neg (fun w => w q)
        rw [es]
        simp (maxDischargeDepth := 12) -implicitDefEqProofs [vb_X12_worn_0, vb_X12_worn_17, vb_X12_worn_20, vb_X12_worn_34, vb_X12_worn_50, vb_X12_worn_87, vb_X12_worn_108, vb_X12_worn_122, vb_X12_worn_124, vb_X12_worn_126, vb_X12_worn_132, vb_X12_worn_141, vb_X12_worn_143, xI_0, xI_1, xI_3, xI_6, xI_7, xI_8, xI_14, xI_36, xI_37, xI_38, xI_44, xI_46, xI_49, xI_51, xI_52, xI_60, xI_61, xI_62, xw_X12_worn_0, xw_X12_worn_17, xw_X12_worn_20, xw_X12_worn_34, xw_X12_worn_50, xw_X12_worn_87, xw_X12_worn_108, xw_X12_worn_122, xw_X12_worn_124, xw_X12_worn_126, xw_X12_worn_132, xw_X12_worn_141, xw_X12_worn_143, zw_lit, xB_c, xB_s, xB_n, i1_c, j2_c, k1_c, jJ_e, xlg, xls, xla, xpd, ppush, zw_m1, zw_m2, zw_m3, gf_12_0, gf_12_43, tg_12_0, tg_12_43, gv_590_0, gv_590_43, xD1, xD2, xD3, xD4, xD5, xD6, xb1_0, q', z1] at g
        obtain ⟨k, hk, g⟩ := g
        obtain ⟨H', s2, g⟩ := ih k (by omega) (i + 1) _ s H2 (by omega) (by omega) m0 (by omega) eA2 g
        exact ⟨H', SCm_trans fr s2, g⟩
      · have q' : ¬ nrV A (nrF (wnA A (wrf A b i) (A (92 + 26 * b))) (A 0).toNat 0 (0, -1, 0)) = b := fun w => q (iv.mp w)
        have es : wrS A b i s = (s.1 + 1, if s.1 = 0 then i else s.2) := if_pos q
        rw [es]
        by_cases c0 : s.1 = 0
        · rw [if_pos c0]
          simp (maxDischargeDepth := 12) -implicitDefEqProofs [vb_X12_worn_0, vb_X12_worn_17, vb_X12_worn_20, vb_X12_worn_34, vb_X12_worn_50, vb_X12_worn_87, vb_X12_worn_108, vb_X12_worn_122, vb_X12_worn_124, vb_X12_worn_126, vb_X12_worn_132, vb_X12_worn_141, vb_X12_worn_143, xI_0, xI_1, xI_3, xI_6, xI_7, xI_8, xI_14, xI_36, xI_37, xI_38, xI_44, xI_46, xI_49, xI_51, xI_52, xI_60, xI_61, xI_62, xw_X12_worn_0, xw_X12_worn_17, xw_X12_worn_20, xw_X12_worn_34, xw_X12_worn_50, xw_X12_worn_87, xw_X12_worn_108, xw_X12_worn_122, xw_X12_worn_124, xw_X12_worn_126, xw_X12_worn_132, xw_X12_worn_141, xw_X12_worn_143, zw_lit, xB_c, xB_s, xB_n, i1_c, j2_c, k1_c, jJ_e, xlg, xls, xla, xpd, ppush, zw_m1, zw_m2, zw_m3, gf_12_0, gf_12_43, tg_12_0, tg_12_43, gv_590_0, gv_590_43, xD1, xD2, xD3, xD4, xD5, xD6, xb1_0, q', z1, c0] at g
          obtain ⟨k, hk, g⟩ := g
          obtain ⟨H', s2, g⟩ := ih k (by omega) (i + 1) _ (s.1 + 1, i) H2 (by omega) (by omega) (by show 0 ≤ s.1 + 1; omega) (by show s.1 + 1 ≤ i + 1; omega) eA2 (by rw [c0]; exact g)
          exact ⟨H', SCm_trans fr s2, g⟩
        · have c1 : ¬ s.1 + 1 = 1 := by omega
          rw [if_neg c0]
          simp (maxDischargeDepth := 12) -implicitDefEqProofs [vb_X12_worn_0, vb_X12_worn_17, vb_X12_worn_20, vb_X12_worn_34, vb_X12_worn_50, vb_X12_worn_87, vb_X12_worn_108, vb_X12_worn_122, vb_X12_worn_124, vb_X12_worn_126, vb_X12_worn_132, vb_X12_worn_141, vb_X12_worn_143, xI_0, xI_1, xI_3, xI_6, xI_7, xI_8, xI_14, xI_36, xI_37, xI_38, xI_44, xI_46, xI_49, xI_51, xI_52, xI_60, xI_61, xI_62, xw_X12_worn_0, xw_X12_worn_17, xw_X12_worn_20, xw_X12_worn_34, xw_X12_worn_50, xw_X12_worn_87, xw_X12_worn_108, xw_X12_worn_122, xw_X12_worn_124, xw_X12_worn_126, xw_X12_worn_132, xw_X12_worn_141, xw_X12_worn_143, zw_lit, xB_c, xB_s, xB_n, i1_c, j2_c, k1_c, jJ_e, xlg, xls, xla, xpd, ppush, zw_m1, zw_m2, zw_m3, gf_12_0, gf_12_43, tg_12_0, tg_12_43, gv_590_0, gv_590_43, xD1, xD2, xD3, xD4, xD5, xD6, xb1_0, q', z1, zm, c0, c1] at g
          obtain ⟨k, hk, g⟩ := g
          obtain ⟨H', s2, g⟩ := ih k (by omega) (i + 1) _ (s.1 + 1, s.2) H2 (by omega) (by omega) (by show 0 ≤ s.1 + 1; omega) (by show s.1 + 1 ≤ i + 1; omega) eA2 g
          exact ⟨H', SCm_trans fr s2, g⟩
    · have c' : A (92 + 26 * b) ≤ i := by omega
      rw [show (A (92 + 26 * b) - i).toNat = 0 by omega]
      by_cases w0 : w = 0
      · have h := xw_top (hd := [34, 50]) 15 xD6_ok xc_X12_worn xa_X12_worn (t := 34) rfl h
        simp (maxDischargeDepth := 12) -implicitDefEqProofs [vb_X12_worn_0, vb_X12_worn_17, vb_X12_worn_20, vb_X12_worn_34, vb_X12_worn_50, vb_X12_worn_87, vb_X12_worn_108, vb_X12_worn_122, vb_X12_worn_124, vb_X12_worn_126, vb_X12_worn_132, vb_X12_worn_141, vb_X12_worn_143, xI_0, xI_1, xI_3, xI_6, xI_7, xI_8, xI_14, xI_36, xI_37, xI_38, xI_44, xI_46, xI_49, xI_51, xI_52, xI_60, xI_61, xI_62, xw_X12_worn_0, xw_X12_worn_17, xw_X12_worn_20, xw_X12_worn_34, xw_X12_worn_50, xw_X12_worn_87, xw_X12_worn_108, xw_X12_worn_122, xw_X12_worn_124, xw_X12_worn_126, xw_X12_worn_132, xw_X12_worn_141, xw_X12_worn_143, zw_lit, xB_c, xB_s, xB_n, i1_c, j2_c, k1_c, jJ_e, xlg, xls, xla, xpd, ppush, zw_m1, zw_m2, zw_m3, gf_12_0, gf_12_43, tg_12_0, tg_12_43, gv_590_0, gv_590_43, xD1, xD2, xD3, xD4, xD5, xD6, xb1_0, hA, z0, c, c', w0] at h
        rw [if_pos w0]
        exact ⟨H, SCm_refl, h⟩
      · have h := xw_top (hd := [34, 50]) 15 xD6_ok xc_X12_worn xa_X12_worn (t := 34) rfl h
        simp (maxDischargeDepth := 12) -implicitDefEqProofs [vb_X12_worn_0, vb_X12_worn_17, vb_X12_worn_20, vb_X12_worn_34, vb_X12_worn_50, vb_X12_worn_87, vb_X12_worn_108, vb_X12_worn_122, vb_X12_worn_124, vb_X12_worn_126, vb_X12_worn_132, vb_X12_worn_141, vb_X12_worn_143, xI_0, xI_1, xI_3, xI_6, xI_7, xI_8, xI_14, xI_36, xI_37, xI_38, xI_44, xI_46, xI_49, xI_51, xI_52, xI_60, xI_61, xI_62, xw_X12_worn_0, xw_X12_worn_17, xw_X12_worn_20, xw_X12_worn_34, xw_X12_worn_50, xw_X12_worn_87, xw_X12_worn_108, xw_X12_worn_122, xw_X12_worn_124, xw_X12_worn_126, xw_X12_worn_132, xw_X12_worn_141, xw_X12_worn_143, zw_lit, xB_c, xB_s, xB_n, i1_c, j2_c, k1_c, jJ_e, xlg, xls, xla, xpd, ppush, zw_m1, zw_m2, zw_m3, gf_12_0, gf_12_43, tg_12_0, tg_12_43, gv_590_0, gv_590_43, xD1, xD2, xD3, xD4, xD5, xD6, xb1_0, hA, z0, c, c', w0] at h
        rw [if_neg w0]
        exact ⟨H, SCm_refl, h⟩
set_option maxRecDepth 100000 in
theorem sp_m_worn (b w : Int) (H : PH) (ok : OKR (H 591)) : SPEC 247 [(2, 590), (0, b), (0, w)] H (fun r H' => r = some (0, wrQ (H 591) b w) ∧ MQs H H') := by
  intro E n' res h
  have a0 := ok.1.1
  have a2 := ok.1.2.2.1
  have os := ok.2.2.1
  unfold OKS at os
  have z0 : zw (H 591 0 - 1) = H 591 0 - 1 := zw_lit (by omega) (by omega)
  have z2 : zw (H 591 2 - 1) = H 591 2 - 1 := zw_lit (by omega) (by omega)
  by_cases qb : 0 ≤ b ∧ b ≤ H 591 0 - 1
  · have b0 := qb.1
    have b1 := qb.2
    have b2 : ¬ b < 0 := by omega
    have b3 : ¬ H 591 0 - 1 < b := by omega
    by_cases qw : 0 ≤ w ∧ w ≤ 1
    · have w0 := qw.1
      have w1 := qw.2
      have w2 : ¬ w < 0 := by omega
      have w3 : ¬ 1 < w := by omega
      have hq : (0 ≤ b ∧ b < H 591 0) ∧ (0 ≤ w ∧ w ≤ 1) := by omega
      have y1 : zw (26 * b) = 26 * b := zw_lit (by omega) (by omega)
      have y2 : zw (92 + 26 * b) = 92 + 26 * b := zw_lit (by omega) (by omega)
      have h := call_runP 8 vm_X12_worn h
      have h := xw_top (hd := [34]) 15 xD6_ok xc_X12_worn xa_X12_worn (t := 0) rfl h
      simp (maxDischargeDepth := 12) -implicitDefEqProofs [vb_X12_worn_0, vb_X12_worn_17, vb_X12_worn_20, vb_X12_worn_34, vb_X12_worn_50, vb_X12_worn_87, vb_X12_worn_108, vb_X12_worn_122, vb_X12_worn_124, vb_X12_worn_126, vb_X12_worn_132, vb_X12_worn_141, vb_X12_worn_143, xI_0, xI_1, xI_3, xI_6, xI_7, xI_8, xI_14, xI_36, xI_37, xI_38, xI_44, xI_46, xI_49, xI_51, xI_52, xI_60, xI_61, xI_62, xw_X12_worn_0, xw_X12_worn_17, xw_X12_worn_20, xw_X12_worn_34, xw_X12_worn_50, xw_X12_worn_87, xw_X12_worn_108, xw_X12_worn_122, xw_X12_worn_124, xw_X12_worn_126, xw_X12_worn_132, xw_X12_worn_141, xw_X12_worn_143, zw_lit, xB_c, xB_s, xB_n, i1_c, j2_c, k1_c, jJ_e, xlg, xls, xla, xpd, ppush, zw_m1, zw_m2, zw_m3, gf_12_0, gf_12_43, tg_12_0, tg_12_43, gv_590_0, gv_590_43, xD1, xD2, xD3, xD4, xD5, xD6, xb1_0, z0, b0, b1, b2, b3, w0, w1, w2, w3, y1, y2] at h
      obtain ⟨m, hm, g⟩ := h
      obtain ⟨H', sc, g⟩ := lp_mwn b w (H 591) ok.1 hq.1 qw m 0 _ (0, -1) H (by omega) (ok.1.2.2.2.1 b b0 (by omega)).1 (Int.le_refl _) (Int.le_refl _) rfl g
      rw [Int.sub_zero] at g
      exact ⟨_, H', g, by unfold wrQ; rw [if_pos hq]; rfl, MQs_SC sc (by decide) (by decide)⟩
    · by_cases w0 : 0 ≤ w
      · have w1 : ¬ w ≤ 1 := by omega
        have w2 : ¬ w < 0 := by omega
        have w3 : 1 < w := by omega
        have h := call_runP 8 vm_X12_worn h
        have h := xw_top (hd := [34]) 15 xD6_ok xc_X12_worn xa_X12_worn (t := 0) rfl h
        simp (maxDischargeDepth := 12) -implicitDefEqProofs [vb_X12_worn_0, vb_X12_worn_17, vb_X12_worn_20, vb_X12_worn_34, vb_X12_worn_50, vb_X12_worn_87, vb_X12_worn_108, vb_X12_worn_122, vb_X12_worn_124, vb_X12_worn_126, vb_X12_worn_132, vb_X12_worn_141, vb_X12_worn_143, xI_0, xI_1, xI_3, xI_6, xI_7, xI_8, xI_14, xI_36, xI_37, xI_38, xI_44, xI_46, xI_49, xI_51, xI_52, xI_60, xI_61, xI_62, xw_X12_worn_0, xw_X12_worn_17, xw_X12_worn_20, xw_X12_worn_34, xw_X12_worn_50, xw_X12_worn_87, xw_X12_worn_108, xw_X12_worn_122, xw_X12_worn_124, xw_X12_worn_126, xw_X12_worn_132, xw_X12_worn_141, xw_X12_worn_143, zw_lit, xB_c, xB_s, xB_n, i1_c, j2_c, k1_c, jJ_e, xlg, xls, xla, xpd, ppush, zw_m1, zw_m2, zw_m3, gf_12_0, gf_12_43, tg_12_0, tg_12_43, gv_590_0, gv_590_43, xD1, xD2, xD3, xD4, xD5, xD6, xb1_0, z0, b0, b1, b2, b3, w0, w1, w2, w3] at h
        exact ⟨_, _, h, by unfold wrQ; rw [if_neg (by omega)], MQs_refl⟩
      · have w2 : w < 0 := by omega
        have h := call_runP 8 vm_X12_worn h
        have h := xw_top (hd := [34]) 15 xD6_ok xc_X12_worn xa_X12_worn (t := 0) rfl h
        simp (maxDischargeDepth := 12) -implicitDefEqProofs [vb_X12_worn_0, vb_X12_worn_17, vb_X12_worn_20, vb_X12_worn_34, vb_X12_worn_50, vb_X12_worn_87, vb_X12_worn_108, vb_X12_worn_122, vb_X12_worn_124, vb_X12_worn_126, vb_X12_worn_132, vb_X12_worn_141, vb_X12_worn_143, xI_0, xI_1, xI_3, xI_6, xI_7, xI_8, xI_14, xI_36, xI_37, xI_38, xI_44, xI_46, xI_49, xI_51, xI_52, xI_60, xI_61, xI_62, xw_X12_worn_0, xw_X12_worn_17, xw_X12_worn_20, xw_X12_worn_34, xw_X12_worn_50, xw_X12_worn_87, xw_X12_worn_108, xw_X12_worn_122, xw_X12_worn_124, xw_X12_worn_126, xw_X12_worn_132, xw_X12_worn_141, xw_X12_worn_143, zw_lit, xB_c, xB_s, xB_n, i1_c, j2_c, k1_c, jJ_e, xlg, xls, xla, xpd, ppush, zw_m1, zw_m2, zw_m3, gf_12_0, gf_12_43, tg_12_0, tg_12_43, gv_590_0, gv_590_43, xD1, xD2, xD3, xD4, xD5, xD6, xb1_0, z0, b0, b1, b2, b3, w0, w2] at h
        exact ⟨_, _, h, by unfold wrQ; rw [if_neg (by omega)], MQs_refl⟩
  · by_cases b0 : 0 ≤ b
    · have b1 : ¬ b ≤ H 591 0 - 1 := by omega
      have b2 : ¬ b < 0 := by omega
      have b3 : H 591 0 - 1 < b := by omega
      have h := call_runP 8 vm_X12_worn h
      have h := xw_top (hd := [34]) 15 xD6_ok xc_X12_worn xa_X12_worn (t := 0) rfl h
      simp (maxDischargeDepth := 12) -implicitDefEqProofs [vb_X12_worn_0, vb_X12_worn_17, vb_X12_worn_20, vb_X12_worn_34, vb_X12_worn_50, vb_X12_worn_87, vb_X12_worn_108, vb_X12_worn_122, vb_X12_worn_124, vb_X12_worn_126, vb_X12_worn_132, vb_X12_worn_141, vb_X12_worn_143, xI_0, xI_1, xI_3, xI_6, xI_7, xI_8, xI_14, xI_36, xI_37, xI_38, xI_44, xI_46, xI_49, xI_51, xI_52, xI_60, xI_61, xI_62, xw_X12_worn_0, xw_X12_worn_17, xw_X12_worn_20, xw_X12_worn_34, xw_X12_worn_50, xw_X12_worn_87, xw_X12_worn_108, xw_X12_worn_122, xw_X12_worn_124, xw_X12_worn_126, xw_X12_worn_132, xw_X12_worn_141, xw_X12_worn_143, zw_lit, xB_c, xB_s, xB_n, i1_c, j2_c, k1_c, jJ_e, xlg, xls, xla, xpd, ppush, zw_m1, zw_m2, zw_m3, gf_12_0, gf_12_43, tg_12_0, tg_12_43, gv_590_0, gv_590_43, xD1, xD2, xD3, xD4, xD5, xD6, xb1_0, z0, b0, b1, b2, b3] at h
      exact ⟨_, _, h, by unfold wrQ; rw [if_neg (by omega)], MQs_refl⟩
    · have b2 : b < 0 := by omega
      have h := call_runP 8 vm_X12_worn h
      have h := xw_top (hd := [34]) 15 xD6_ok xc_X12_worn xa_X12_worn (t := 0) rfl h
      simp (maxDischargeDepth := 12) -implicitDefEqProofs [vb_X12_worn_0, vb_X12_worn_17, vb_X12_worn_20, vb_X12_worn_34, vb_X12_worn_50, vb_X12_worn_87, vb_X12_worn_108, vb_X12_worn_122, vb_X12_worn_124, vb_X12_worn_126, vb_X12_worn_132, vb_X12_worn_141, vb_X12_worn_143, xI_0, xI_1, xI_3, xI_6, xI_7, xI_8, xI_14, xI_36, xI_37, xI_38, xI_44, xI_46, xI_49, xI_51, xI_52, xI_60, xI_61, xI_62, xw_X12_worn_0, xw_X12_worn_17, xw_X12_worn_20, xw_X12_worn_34, xw_X12_worn_50, xw_X12_worn_87, xw_X12_worn_108, xw_X12_worn_122, xw_X12_worn_124, xw_X12_worn_126, xw_X12_worn_132, xw_X12_worn_141, xw_X12_worn_143, zw_lit, xB_c, xB_s, xB_n, i1_c, j2_c, k1_c, jJ_e, xlg, xls, xla, xpd, ppush, zw_m1, zw_m2, zw_m3, gf_12_0, gf_12_43, tg_12_0, tg_12_43, gv_590_0, gv_590_43, xD1, xD2, xD3, xD4, xD5, xD6, xb1_0, z0, b0, b2] at h
      exact ⟨_, _, h, by unfold wrQ; rw [if_neg (by omega)], MQs_refl⟩
theorem pr_worn (b w : Int) (H : PH) (h : REL H) : PAIR 132 [(2, 0), (0, b), (0, w)] 247 [(2, 590), (0, b), (0, w)] H := by
  obtain ⟨⟨S, n, rl⟩, tp⟩ := h
  intro E N res hh
  obtain ⟨r, H1, g, rfl, cq⟩ := sp_c_worn b w S n H rl.2.1 rl.2.2.1 E N res hh
  refine ⟨_, H1, g, ⟨_, rfl⟩, ?_⟩
  obtain ⟨x1, x2, x3, x4, x5⟩ := RL_mid rl cq.2.2.1
  intro E N res hh
  obtain ⟨r', H2, g', rfl, mq⟩ := sp_m_worn b w H1 x4 E N res hh
  exact ⟨_, H2, g', by rw [x1], REL_MQ (REL_CQ rl tp cq) mq⟩
