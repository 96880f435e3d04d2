theorem gf_12_44 : gfOK 12 44 = true := by decide +kernel
theorem gf_12_45 : gfOK 12 45 = true := by decide +kernel
theorem gf_12_46 : gfOK 12 46 = true := by decide +kernel
theorem gf_12_47 : gfOK 12 47 = true := by decide +kernel
theorem gf_12_48 : gfOK 12 48 = true := by decide +kernel
theorem gf_12_49 : gfOK 12 49 = true := by decide +kernel
theorem pf_12_47 : pfOK 12 47 = true := by decide +kernel
theorem pf_12_48 : pfOK 12 48 = true := by decide +kernel
def xm_X12_isNear : List xbT := [(0, vb_X12_isNear_0, some 33), (33, vb_X12_isNear_33, some 34), (34, vb_X12_isNear_34, none)]
theorem xc_X12_isNear : xOK kd_X12_isNear xm_X12_isNear := ⟨ve_X12_isNear_0, ve_X12_isNear_33, ve_X12_isNear_34, trivial⟩
theorem xa_X12_isNear : xm_X12_isNear.all (fun q => aOKb q.2.1 && !q.2.1.isEmpty) = true := by decide +kernel
theorem xw_X12_isNear_0 {E : xE} {res : xR} {N : Nat} {hd : List Nat} {C : xCT} {k : Nat} {L : List Int} {st : List pv} {H : PH} : xW E res N kd_X12_isNear xm_X12_isNear hd C (k + 1) 0 L st H = xB (fun t L st H => if t ∈ hd then xJ E res N kd_X12_isNear t L st H else xW E res N kd_X12_isNear xm_X12_isNear hd C k t L st H) (REPR E res) C (some 33) vb_X12_isNear_0 0 L st H := Eq.trans rfl rfl
theorem xw_X12_isNear_33 {E : xE} {res : xR} {N : Nat} {hd : List Nat} {C : xCT} {k : Nat} {L : List Int} {st : List pv} {H : PH} : xW E res N kd_X12_isNear xm_X12_isNear hd C (k + 1) 33 L st H = xB (fun t L st H => if t ∈ hd then xJ E res N kd_X12_isNear t L st H else xW E res N kd_X12_isNear xm_X12_isNear hd C k t L st H) (REPR E res) C (some 34) vb_X12_isNear_33 33 L st H := Eq.trans rfl rfl
theorem xw_X12_isNear_34 {E : xE} {res : xR} {N : Nat} {hd : List Nat} {C : xCT} {k : Nat} {L : List Int} {st : List pv} {H : PH} : xW E res N kd_X12_isNear xm_X12_isNear hd C (k + 1) 34 L st H = xB (fun t L st H => if t ∈ hd then xJ E res N kd_X12_isNear t L st H else xW E res N kd_X12_isNear xm_X12_isNear hd C k t L st H) (REPR E res) C (none) vb_X12_isNear_34 34 L st H := Eq.trans rfl rfl
def xm_X12_comesTo : List xbT := [(0, vb_X12_comesTo_0, some 43), (43, vb_X12_comesTo_43, some 54), (54, vb_X12_comesTo_54, none)]
theorem xc_X12_comesTo : xOK kd_X12_comesTo xm_X12_comesTo := ⟨ve_X12_comesTo_0, ve_X12_comesTo_43, ve_X12_comesTo_54, trivial⟩
theorem xa_X12_comesTo : xm_X12_comesTo.all (fun q => aOKb q.2.1 && !q.2.1.isEmpty) = true := by decide +kernel
theorem xw_X12_comesTo_0 {E : xE} {res : xR} {N : Nat} {hd : List Nat} {C : xCT} {k : Nat} {L : List Int} {st : List pv} {H : PH} : xW E res N kd_X12_comesTo xm_X12_comesTo hd C (k + 1) 0 L st H = xB (fun t L st H => if t ∈ hd then xJ E res N kd_X12_comesTo t L st H else xW E res N kd_X12_comesTo xm_X12_comesTo hd C k t L st H) (REPR E res) C (some 43) vb_X12_comesTo_0 0 L st H := Eq.trans rfl rfl
theorem xw_X12_comesTo_43 {E : xE} {res : xR} {N : Nat} {hd : List Nat} {C : xCT} {k : Nat} {L : List Int} {st : List pv} {H : PH} : xW E res N kd_X12_comesTo xm_X12_comesTo hd C (k + 1) 43 L st H = xB (fun t L st H => if t ∈ hd then xJ E res N kd_X12_comesTo t L st H else xW E res N kd_X12_comesTo xm_X12_comesTo hd C k t L st H) (REPR E res) C (some 54) vb_X12_comesTo_43 43 L st H := Eq.trans rfl rfl
theorem xw_X12_comesTo_54 {E : xE} {res : xR} {N : Nat} {hd : List Nat} {C : xCT} {k : Nat} {L : List Int} {st : List pv} {H : PH} : xW E res N kd_X12_comesTo xm_X12_comesTo hd C (k + 1) 54 L st H = xB (fun t L st H => if t ∈ hd then xJ E res N kd_X12_comesTo t L st H else xW E res N kd_X12_comesTo xm_X12_comesTo hd C k t L st H) (REPR E res) C (none) vb_X12_comesTo_54 54 L st H := Eq.trans rfl rfl
def xm_X12_offOf : List xbT := [(0, vb_X12_offOf_0, some 44), (44, vb_X12_offOf_44, some 45), (45, vb_X12_offOf_45, none)]
theorem xc_X12_offOf : xOK kd_X12_offOf xm_X12_offOf := ⟨ve_X12_offOf_0, ve_X12_offOf_44, ve_X12_offOf_45, trivial⟩
theorem xa_X12_offOf : xm_X12_offOf.all (fun q => aOKb q.2.1 && !q.2.1.isEmpty) = true := by decide +kernel
theorem xw_X12_offOf_0 {E : xE} {res : xR} {N : Nat} {hd : List Nat} {C : xCT} {k : Nat} {L : List Int} {st : List pv} {H : PH} : xW E res N kd_X12_offOf xm_X12_offOf hd C (k + 1) 0 L st H = xB (fun t L st H => if t ∈ hd then xJ E res N kd_X12_offOf t L st H else xW E res N kd_X12_offOf xm_X12_offOf hd C k t L st H) (REPR E res) C (some 44) vb_X12_offOf_0 0 L st H := Eq.trans rfl rfl
theorem xw_X12_offOf_44 {E : xE} {res : xR} {N : Nat} {hd : List Nat} {C : xCT} {k : Nat} {L : List Int} {st : List pv} {H : PH} : xW E res N kd_X12_offOf xm_X12_offOf hd C (k + 1) 44 L st H = xB (fun t L st H => if t ∈ hd then xJ E res N kd_X12_offOf t L st H else xW E res N kd_X12_offOf xm_X12_offOf hd C k t L st H) (REPR E res) C (some 45) vb_X12_offOf_44 44 L st H := Eq.trans rfl rfl
theorem xw_X12_offOf_45 {E : xE} {res : xR} {N : Nat} {hd : List Nat} {C : xCT} {k : Nat} {L : List Int} {st : List pv} {H : PH} : xW E res N kd_X12_offOf xm_X12_offOf hd C (k + 1) 45 L st H = xB (fun t L st H => if t ∈ hd then xJ E res N kd_X12_offOf t L st H else xW E res N kd_X12_offOf xm_X12_offOf hd C k t L st H) (REPR E res) C (none) vb_X12_offOf_45 45 L st H := Eq.trans rfl rfl
def xm_X12_takes_ : List xbT := [(0, vb_X12_takes__0, none)]
theorem xc_X12_takes_ : xOK kd_X12_takes_ xm_X12_takes_ := ⟨ve_X12_takes__0, trivial⟩
theorem xa_X12_takes_ : xm_X12_takes_.all (fun q => aOKb q.2.1 && !q.2.1.isEmpty) = true := by decide +kernel
theorem xw_X12_takes__0 {E : xE} {res : xR} {N : Nat} {hd : List Nat} {C : xCT} {k : Nat} {L : List Int} {st : List pv} {H : PH} : xW E res N kd_X12_takes_ xm_X12_takes_ hd C (k + 1) 0 L st H = xB (fun t L st H => if t ∈ hd then xJ E res N kd_X12_takes_ t L st H else xW E res N kd_X12_takes_ xm_X12_takes_ hd C k t L st H) (REPR E res) C (none) vb_X12_takes__0 0 L st H := Eq.trans rfl rfl
def xm_X12_laySettled : List xbT := [(0, vb_X12_laySettled_0, some 11), (11, vb_X12_laySettled_11, some 35), (35, vb_X12_laySettled_35, some 55), (55, vb_X12_laySettled_55, some 61), (61, vb_X12_laySettled_61, some 75), (75, vb_X12_laySettled_75, some 79), (79, vb_X12_laySettled_79, some 103), (103, vb_X12_laySettled_103, some 105), (105, vb_X12_laySettled_105, some 115), (115, vb_X12_laySettled_115, some 157), (157, vb_X12_laySettled_157, some 158), (158, vb_X12_laySettled_158, some 165), (165, vb_X12_laySettled_165, some 171), (171, vb_X12_laySettled_171, some 185), (185, vb_X12_laySettled_185, some 214), (214, vb_X12_laySettled_214, some 223), (223, vb_X12_laySettled_223, some 249), (249, vb_X12_laySettled_249, some 268), (268, vb_X12_laySettled_268, some 301), (301, vb_X12_laySettled_301, some 317), (317, vb_X12_laySettled_317, some 325), (325, vb_X12_laySettled_325, some 354), (354, vb_X12_laySettled_354, some 357), (357, vb_X12_laySettled_357, none)]
theorem xc_X12_laySettled : xOK kd_X12_laySettled xm_X12_laySettled := ⟨ve_X12_laySettled_0, ve_X12_laySettled_11, ve_X12_laySettled_35, ve_X12_laySettled_55, ve_X12_laySettled_61, ve_X12_laySettled_75, ve_X12_laySettled_79, ve_X12_laySettled_103, ve_X12_laySettled_105, ve_X12_laySettled_115, ve_X12_laySettled_157, ve_X12_laySettled_158, ve_X12_laySettled_165, ve_X12_laySettled_171, ve_X12_laySettled_185, ve_X12_laySettled_214, ve_X12_laySettled_223, ve_X12_laySettled_249, ve_X12_laySettled_268, ve_X12_laySettled_301, ve_X12_laySettled_317, ve_X12_laySettled_325, ve_X12_laySettled_354, ve_X12_laySettled_357, trivial⟩
theorem xa_X12_laySettled : xm_X12_laySettled.all (fun q => aOKb q.2.1 && !q.2.1.isEmpty) = true := by decide +kernel
theorem xw_X12_laySettled_0 {E : xE} {res : xR} {N : Nat} {hd : List Nat} {C : xCT} {k : Nat} {L : List Int} {st : List pv} {H : PH} : xW E res N kd_X12_laySettled xm_X12_laySettled hd C (k + 1) 0 L st H = xB (fun t L st H => if t ∈ hd then xJ E res N kd_X12_laySettled t L st H else xW E res N kd_X12_laySettled xm_X12_laySettled hd C k t L st H) (REPR E res) C (some 11) vb_X12_laySettled_0 0 L st H := Eq.trans rfl rfl
theorem xw_X12_laySettled_11 {E : xE} {res : xR} {N : Nat} {hd : List Nat} {C : xCT} {k : Nat} {L : List Int} {st : List pv} {H : PH} : xW E res N kd_X12_laySettled xm_X12_laySettled hd C (k + 1) 11 L st H = xB (fun t L st H => if t ∈ hd then xJ E res N kd_X12_laySettled t L st H else xW E res N kd_X12_laySettled xm_X12_laySettled hd C k t L st H) (REPR E res) C (some 35) vb_X12_laySettled_11 11 L st H := Eq.trans rfl rfl
theorem xw_X12_laySettled_35 {E : xE} {res : xR} {N : Nat} {hd : List Nat} {C : xCT} {k : Nat} {L : List Int} {st : List pv} {H : PH} : xW E res N kd_X12_laySettled xm_X12_laySettled hd C (k + 1) 35 L st H = xB (fun t L st H => if t ∈ hd then xJ E res N kd_X12_laySettled t L st H else xW E res N kd_X12_laySettled xm_X12_laySettled hd C k t L st H) (REPR E res) C (some 55) vb_X12_laySettled_35 35 L st H := Eq.trans rfl rfl
theorem xw_X12_laySettled_55 {E : xE} {res : xR} {N : Nat} {hd : List Nat} {C : xCT} {k : Nat} {L : List Int} {st : List pv} {H : PH} : xW E res N kd_X12_laySettled xm_X12_laySettled hd C (k + 1) 55 L st H = xB (fun t L st H => if t ∈ hd then xJ E res N kd_X12_laySettled t L st H else xW E res N kd_X12_laySettled xm_X12_laySettled hd C k t L st H) (REPR E res) C (some 61) vb_X12_laySettled_55 55 L st H := Eq.trans rfl rfl
theorem xw_X12_laySettled_61 {E : xE} {res : xR} {N : Nat} {hd : List Nat} {C : xCT} {k : Nat} {L : List Int} {st : List pv} {H : PH} : xW E res N kd_X12_laySettled xm_X12_laySettled hd C (k + 1) 61 L st H = xB (fun t L st H => if t ∈ hd then xJ E res N kd_X12_laySettled t L st H else xW E res N kd_X12_laySettled xm_X12_laySettled hd C k t L st H) (REPR E res) C (some 75) vb_X12_laySettled_61 61 L st H := Eq.trans rfl rfl
theorem xw_X12_laySettled_75 {E : xE} {res : xR} {N : Nat} {hd : List Nat} {C : xCT} {k : Nat} {L : List Int} {st : List pv} {H : PH} : xW E res N kd_X12_laySettled xm_X12_laySettled hd C (k + 1) 75 L st H = xB (fun t L st H => if t ∈ hd then xJ E res N kd_X12_laySettled t L st H else xW E res N kd_X12_laySettled xm_X12_laySettled hd C k t L st H) (REPR E res) C (some 79) vb_X12_laySettled_75 75 L st H := Eq.trans rfl rfl
theorem xw_X12_laySettled_79 {E : xE} {res : xR} {N : Nat} {hd : List Nat} {C : xCT} {k : Nat} {L : List Int} {st : List pv} {H : PH} : xW E res N kd_X12_laySettled xm_X12_laySettled hd C (k + 1) 79 L st H = xB (fun t L st H => if t ∈ hd then xJ E res N kd_X12_laySettled t L st H else xW E res N kd_X12_laySettled xm_X12_laySettled hd C k t L st H) (REPR E res) C (some 103) vb_X12_laySettled_79 79 L st H := Eq.trans rfl rfl
theorem xw_X12_laySettled_103 {E : xE} {res : xR} {N : Nat} {hd : List Nat} {C : xCT} {k : Nat} {L : List Int} {st : List pv} {H : PH} : xW E res N kd_X12_laySettled xm_X12_laySettled hd C (k + 1) 103 L st H = xB (fun t L st H => if t ∈ hd then xJ E res N kd_X12_laySettled t L st H else xW E res N kd_X12_laySettled xm_X12_laySettled hd C k t L st H) (REPR E res) C (some 105) vb_X12_laySettled_103 103 L st H := Eq.trans rfl rfl
theorem xw_X12_laySettled_105 {E : xE} {res : xR} {N : Nat} {hd : List Nat} {C : xCT} {k : Nat} {L : List Int} {st : List pv} {H : PH} : xW E res N kd_X12_laySettled xm_X12_laySettled hd C (k + 1) 105 L st H = xB (fun t L st H => if t ∈ hd then xJ E res N kd_X12_laySettled t L st H else xW E res N kd_X12_laySettled xm_X12_laySettled hd C k t L st H) (REPR E res) C (some 115) vb_X12_laySettled_105 105 L st H := Eq.trans rfl rfl
theorem xw_X12_laySettled_115 {E : xE} {res : xR} {N : Nat} {hd : List Nat} {C : xCT} {k : Nat} {L : List Int} {st : List pv} {H : PH} : xW E res N kd_X12_laySettled xm_X12_laySettled hd C (k + 1) 115 L st H = xB (fun t L st H => if t ∈ hd then xJ E res N kd_X12_laySettled t L st H else xW E res N kd_X12_laySettled xm_X12_laySettled hd C k t L st H) (REPR E res) C (some 157) vb_X12_laySettled_115 115 L st H := Eq.trans rfl rfl
theorem xw_X12_laySettled_157 {E : xE} {res : xR} {N : Nat} {hd : List Nat} {C : xCT} {k : Nat} {L : List Int} {st : List pv} {H : PH} : xW E res N kd_X12_laySettled xm_X12_laySettled hd C (k + 1) 157 L st H = xB (fun t L st H => if t ∈ hd then xJ E res N kd_X12_laySettled t L st H else xW E res N kd_X12_laySettled xm_X12_laySettled hd C k t L st H) (REPR E res) C (some 158) vb_X12_laySettled_157 157 L st H := Eq.trans rfl rfl
theorem xw_X12_laySettled_158 {E : xE} {res : xR} {N : Nat} {hd : List Nat} {C : xCT} {k : Nat} {L : List Int} {st : List pv} {H : PH} : xW E res N kd_X12_laySettled xm_X12_laySettled hd C (k + 1) 158 L st H = xB (fun t L st H => if t ∈ hd then xJ E res N kd_X12_laySettled t L st H else xW E res N kd_X12_laySettled xm_X12_laySettled hd C k t L st H) (REPR E res) C (some 165) vb_X12_laySettled_158 158 L st H := Eq.trans rfl rfl
theorem xw_X12_laySettled_165 {E : xE} {res : xR} {N : Nat} {hd : List Nat} {C : xCT} {k : Nat} {L : List Int} {st : List pv} {H : PH} : xW E res N kd_X12_laySettled xm_X12_laySettled hd C (k + 1) 165 L st H = xB (fun t L st H => if t ∈ hd then xJ E res N kd_X12_laySettled t L st H else xW E res N kd_X12_laySettled xm_X12_laySettled hd C k t L st H) (REPR E res) C (some 171) vb_X12_laySettled_165 165 L st H := Eq.trans rfl rfl
theorem xw_X12_laySettled_171 {E : xE} {res : xR} {N : Nat} {hd : List Nat} {C : xCT} {k : Nat} {L : List Int} {st : List pv} {H : PH} : xW E res N kd_X12_laySettled xm_X12_laySettled hd C (k + 1) 171 L st H = xB (fun t L st H => if t ∈ hd then xJ E res N kd_X12_laySettled t L st H else xW E res N kd_X12_laySettled xm_X12_laySettled hd C k t L st H) (REPR E res) C (some 185) vb_X12_laySettled_171 171 L st H := Eq.trans rfl rfl
theorem xw_X12_laySettled_185 {E : xE} {res : xR} {N : Nat} {hd : List Nat} {C : xCT} {k : Nat} {L : List Int} {st : List pv} {H : PH} : xW E res N kd_X12_laySettled xm_X12_laySettled hd C (k + 1) 185 L st H = xB (fun t L st H => if t ∈ hd then xJ E res N kd_X12_laySettled t L st H else xW E res N kd_X12_laySettled xm_X12_laySettled hd C k t L st H) (REPR E res) C (some 214) vb_X12_laySettled_185 185 L st H := Eq.trans rfl rfl
theorem xw_X12_laySettled_214 {E : xE} {res : xR} {N : Nat} {hd : List Nat} {C : xCT} {k : Nat} {L : List Int} {st : List pv} {H : PH} : xW E res N kd_X12_laySettled xm_X12_laySettled hd C (k + 1) 214 L st H = xB (fun t L st H => if t ∈ hd then xJ E res N kd_X12_laySettled t L st H else xW E res N kd_X12_laySettled xm_X12_laySettled hd C k t L st H) (REPR E res) C (some 223) vb_X12_laySettled_214 214 L st H := Eq.trans rfl rfl
theorem xw_X12_laySettled_223 {E : xE} {res : xR} {N : Nat} {hd : List Nat} {C : xCT} {k : Nat} {L : List Int} {st : List pv} {H : PH} : xW E res N kd_X12_laySettled xm_X12_laySettled hd C (k + 1) 223 L st H = xB (fun t L st H => if t ∈ hd then xJ E res N kd_X12_laySettled t L st H else xW E res N kd_X12_laySettled xm_X12_laySettled hd C k t L st H) (REPR E res) C (some 249) vb_X12_laySettled_223 223 L st H := Eq.trans rfl rfl
theorem xw_X12_laySettled_249 {E : xE} {res : xR} {N : Nat} {hd : List Nat} {C : xCT} {k : Nat} {L : List Int} {st : List pv} {H : PH} : xW E res N kd_X12_laySettled xm_X12_laySettled hd C (k + 1) 249 L st H = xB (fun t L st H => if t ∈ hd then xJ E res N kd_X12_laySettled t L st H else xW E res N kd_X12_laySettled xm_X12_laySettled hd C k t L st H) (REPR E res) C (some 268) vb_X12_laySettled_249 249 L st H := Eq.trans rfl rfl
theorem xw_X12_laySettled_268 {E : xE} {res : xR} {N : Nat} {hd : List Nat} {C : xCT} {k : Nat} {L : List Int} {st : List pv} {H : PH} : xW E res N kd_X12_laySettled xm_X12_laySettled hd C (k + 1) 268 L st H = xB (fun t L st H => if t ∈ hd then xJ E res N kd_X12_laySettled t L st H else xW E res N kd_X12_laySettled xm_X12_laySettled hd C k t L st H) (REPR E res) C (some 301) vb_X12_laySettled_268 268 L st H := Eq.trans rfl rfl
theorem xw_X12_laySettled_301 {E : xE} {res : xR} {N : Nat} {hd : List Nat} {C : xCT} {k : Nat} {L : List Int} {st : List pv} {H : PH} : xW E res N kd_X12_laySettled xm_X12_laySettled hd C (k + 1) 301 L st H = xB (fun t L st H => if t ∈ hd then xJ E res N kd_X12_laySettled t L st H else xW E res N kd_X12_laySettled xm_X12_laySettled hd C k t L st H) (REPR E res) C (some 317) vb_X12_laySettled_301 301 L st H := Eq.trans rfl rfl
theorem xw_X12_laySettled_317 {E : xE} {res : xR} {N : Nat} {hd : List Nat} {C : xCT} {k : Nat} {L : List Int} {st : List pv} {H : PH} : xW E res N kd_X12_laySettled xm_X12_laySettled hd C (k + 1) 317 L st H = xB (fun t L st H => if t ∈ hd then xJ E res N kd_X12_laySettled t L st H else xW E res N kd_X12_laySettled xm_X12_laySettled hd C k t L st H) (REPR E res) C (some 325) vb_X12_laySettled_317 317 L st H := Eq.trans rfl rfl
theorem xw_X12_laySettled_325 {E : xE} {res : xR} {N : Nat} {hd : List Nat} {C : xCT} {k : Nat} {L : List Int} {st : List pv} {H : PH} : xW E res N kd_X12_laySettled xm_X12_laySettled hd C (k + 1) 325 L st H = xB (fun t L st H => if t ∈ hd then xJ E res N kd_X12_laySettled t L st H else xW E res N kd_X12_laySettled xm_X12_laySettled hd C k t L st H) (REPR E res) C (some 354) vb_X12_laySettled_325 325 L st H := Eq.trans rfl rfl
theorem xw_X12_laySettled_354 {E : xE} {res : xR} {N : Nat} {hd : List Nat} {C : xCT} {k : Nat} {L : List Int} {st : List pv} {H : PH} : xW E res N kd_X12_laySettled xm_X12_laySettled hd C (k + 1) 354 L st H = xB (fun t L st H => if t ∈ hd then xJ E res N kd_X12_laySettled t L st H else xW E res N kd_X12_laySettled xm_X12_laySettled hd C k t L st H) (REPR E res) C (some 357) vb_X12_laySettled_354 354 L st H := Eq.trans rfl rfl
theorem xw_X12_laySettled_357 {E : xE} {res : xR} {N : Nat} {hd : List Nat} {C : xCT} {k : Nat} {L : List Int} {st : List pv} {H : PH} : xW E res N kd_X12_laySettled xm_X12_laySettled hd C (k + 1) 357 L st H = xB (fun t L st H => if t ∈ hd then xJ E res N kd_X12_laySettled t L st H else xW E res N kd_X12_laySettled xm_X12_laySettled hd C k t L st H) (REPR E res) C (none) vb_X12_laySettled_357 357 L st H := Eq.trans rfl rfl
def xm_X12_settled : List xbT := [(0, vb_X12_settled_0, some 13), (13, vb_X12_settled_13, some 20), (20, vb_X12_settled_20, some 22), (22, vb_X12_settled_22, some 32), (32, vb_X12_settled_32, some 34), (34, vb_X12_settled_34, some 59), (59, vb_X12_settled_59, some 65), (65, vb_X12_settled_65, none)]
theorem xc_X12_settled : xOK kd_X12_settled xm_X12_settled := ⟨ve_X12_settled_0, ve_X12_settled_13, ve_X12_settled_20, ve_X12_settled_22, ve_X12_settled_32, ve_X12_settled_34, ve_X12_settled_59, ve_X12_settled_65, trivial⟩
theorem xa_X12_settled : xm_X12_settled.all (fun q => aOKb q.2.1 && !q.2.1.isEmpty) = true := by decide +kernel
theorem xw_X12_settled_0 {E : xE} {res : xR} {N : Nat} {hd : List Nat} {C : xCT} {k : Nat} {L : List Int} {st : List pv} {H : PH} : xW E res N kd_X12_settled xm_X12_settled hd C (k + 1) 0 L st H = xB (fun t L st H => if t ∈ hd then xJ E res N kd_X12_settled t L st H else xW E res N kd_X12_settled xm_X12_settled hd C k t L st H) (REPR E res) C (some 13) vb_X12_settled_0 0 L st H := Eq.trans rfl rfl
theorem xw_X12_settled_13 {E : xE} {res : xR} {N : Nat} {hd : List Nat} {C : xCT} {k : Nat} {L : List Int} {st : List pv} {H : PH} : xW E res N kd_X12_settled xm_X12_settled hd C (k + 1) 13 L st H = xB (fun t L st H => if t ∈ hd then xJ E res N kd_X12_settled t L st H else xW E res N kd_X12_settled xm_X12_settled hd C k t L st H) (REPR E res) C (some 20) vb_X12_settled_13 13 L st H := Eq.trans rfl rfl
theorem xw_X12_settled_20 {E : xE} {res : xR} {N : Nat} {hd : List Nat} {C : xCT} {k : Nat} {L : List Int} {st : List pv} {H : PH} : xW E res N kd_X12_settled xm_X12_settled hd C (k + 1) 20 L st H = xB (fun t L st H => if t ∈ hd then xJ E res N kd_X12_settled t L st H else xW E res N kd_X12_settled xm_X12_settled hd C k t L st H) (REPR E res) C (some 22) vb_X12_settled_20 20 L st H := Eq.trans rfl rfl
theorem xw_X12_settled_22 {E : xE} {res : xR} {N : Nat} {hd : List Nat} {C : xCT} {k : Nat} {L : List Int} {st : List pv} {H : PH} : xW E res N kd_X12_settled xm_X12_settled hd C (k + 1) 22 L st H = xB (fun t L st H => if t ∈ hd then xJ E res N kd_X12_settled t L st H else xW E res N kd_X12_settled xm_X12_settled hd C k t L st H) (REPR E res) C (some 32) vb_X12_settled_22 22 L st H := Eq.trans rfl rfl
theorem xw_X12_settled_32 {E : xE} {res : xR} {N : Nat} {hd : List Nat} {C : xCT} {k : Nat} {L : List Int} {st : List pv} {H : PH} : xW E res N kd_X12_settled xm_X12_settled hd C (k + 1) 32 L st H = xB (fun t L st H => if t ∈ hd then xJ E res N kd_X12_settled t L st H else xW E res N kd_X12_settled xm_X12_settled hd C k t L st H) (REPR E res) C (some 34) vb_X12_settled_32 32 L st H := Eq.trans rfl rfl
theorem xw_X12_settled_34 {E : xE} {res : xR} {N : Nat} {hd : List Nat} {C : xCT} {k : Nat} {L : List Int} {st : List pv} {H : PH} : xW E res N kd_X12_settled xm_X12_settled hd C (k + 1) 34 L st H = xB (fun t L st H => if t ∈ hd then xJ E res N kd_X12_settled t L st H else xW E res N kd_X12_settled xm_X12_settled hd C k t L st H) (REPR E res) C (some 59) vb_X12_settled_34 34 L st H := Eq.trans rfl rfl
theorem xw_X12_settled_59 {E : xE} {res : xR} {N : Nat} {hd : List Nat} {C : xCT} {k : Nat} {L : List Int} {st : List pv} {H : PH} : xW E res N kd_X12_settled xm_X12_settled hd C (k + 1) 59 L st H = xB (fun t L st H => if t ∈ hd then xJ E res N kd_X12_settled t L st H else xW E res N kd_X12_settled xm_X12_settled hd C k t L st H) (REPR E res) C (some 65) vb_X12_settled_59 59 L st H := Eq.trans rfl rfl
theorem xw_X12_settled_65 {E : xE} {res : xR} {N : Nat} {hd : List Nat} {C : xCT} {k : Nat} {L : List Int} {st : List pv} {H : PH} : xW E res N kd_X12_settled xm_X12_settled hd C (k + 1) 65 L st H = xB (fun t L st H => if t ∈ hd then xJ E res N kd_X12_settled t L st H else xW E res N kd_X12_settled xm_X12_settled hd C k t L st H) (REPR E res) C (none) vb_X12_settled_65 65 L st H := Eq.trans rfl rfl
/-! ===== settled: the model's, and the pair ===== -/
theorem qb_620 : qb (zSh 620).1 1 = 1 ∧ qb (zSh 620).1 0 = 0 := by decide +kernel
def ofV (A : Int → Int) (b x y : Int) : Int := if 0 ≤ dueA A b - agA A x y (A (92 + 26 * b + 9)) then dueA A b - agA A x y (A (92 + 26 * b + 9)) else -(dueA A b - agA A x y (A (92 + 26 * b + 9)))
theorem ofV_co {A : Int → Int} {b x y : Int} : ofV A b ((tlZ A).2.2.1 b + x) ((tlZ A).2.2.2 b + y) = coS A b x y := rfl
theorem ofV_in {A : Int → Int} (hB : MB A) (hX : OKX A) {b x y : Int} (hb : 0 ≤ b ∧ b < A 0) (hx : 0 ≤ x ∧ x ≤ 70000) (hy : 0 ≤ y ∧ y ≤ 70000) : 0 ≤ ofV A b x y ∧ ofV A b x y ≤ 1000000 := by
  have d := dueA_in hB hX hb
  have a := agA_in A (x := x) (y := y) (c := A (92 + 26 * b + 9)) (by omega) (by omega)
  unfold ofV
  split
  · omega
  · omega
theorem nrZ_po {A : Int → Int} {k : Int} (h : 0 < A 0) : 0 < (nrZ A (404 + 12 * k + 3) (404 + 12 * k + 4)).1 := by
  have po : 0 < (nrF (lapA A k) (A 0).toNat 0 (0, 0, 0)).1 := by
    rw [show (A 0).toNat = ((A 0).toNat - 1) + 1 by omega]
    show 0 < (nrF (lapA A k) ((A 0).toNat - 1) (0 + 1) (nrS (lapA A k) 0 (0, 0, 0))).1
    refine (nrF_le _ _ _ ?_).2
    unfold nrS
    simp
  exact po
theorem exS_at {A D σ : Int → Int} {b sd j : Int} (hj : 0 ≤ j) : exS A D σ b sd (j.toNat + 1) = exS A D σ b sd j.toNat + (if σ j = b ∧ A (404 + 12 * D j) = sd then A (404 + 12 * D j + 2) else 0) := by
  show exS A D σ b sd j.toNat + (if σ ((j.toNat : Nat) : Int) = b ∧ A (404 + 12 * D ((j.toNat : Nat) : Int)) = sd then A (404 + 12 * D ((j.toNat : Nat) : Int) + 2) else 0) = _
  rw [show ((j.toNat : Nat) : Int) = j by omega]
theorem exS_lo {A D σ : Int → Int} {b sd j v : Int} (hj : 0 ≤ j) : exS A D (xup σ j v) b sd j.toNat = exS A D σ b sd j.toNat := exS_eq _ (fun i i0 i1 => xup_n (by omega))
theorem toS_lo {A D σ : Int → Int} {j v : Int} (hj : 0 ≤ j) : toS A D (xup σ j v) j.toNat = toS A D σ j.toNat := toS_eq (fun i i0 i1 => xup_n (by omega))
theorem exS_no {A D σ : Int → Int} {b sd j : Int} (hj : 0 ≤ j) (h : ¬ σ j = b) : exS A D σ b sd (j.toNat + 1) = exS A D σ b sd j.toNat := by
  rw [exS_at hj, if_neg (fun w : σ j = b ∧ A (404 + 12 * D j) = sd => h w.1), Int.add_zero]
theorem toS_no {A D σ : Int → Int} {j : Int} (hj : 0 ≤ j) (h : σ j = -1) : toS A D σ (j.toNat + 1) = toS A D σ j.toNat := by
  unfold toS
  refine fdS_eq _ _ _ (fun b b0 b1 => ?_)
  have n : ¬ σ j = b := by omega
  rw [exS_no hj n, exS_no hj n]
theorem toS_st {A D σ : Int → Int} {j : Int} (hj : 0 ≤ j) (hb : 0 ≤ σ j ∧ σ j < A 0) : toS A D σ (j.toNat + 1) = toS A D σ j.toNat - coS A (σ j) (exS A D σ (σ j) 0 j.toNat) (exS A D σ (σ j) 1 j.toNat) + coS A (σ j) (exS A D σ (σ j) 0 (j.toNat + 1)) (exS A D σ (σ j) 1 (j.toNat + 1)) := by
  have h := toS_up (A := A) (D := D) (σ := σ) (j := j.toNat) hb
  rw [show ((j.toNat : Nat) : Int) = j by omega] at h
  have f : xup σ j (σ j) = σ := funext fun i => by
    by_cases c : i = j
    · rw [c, xup_a]
    · rw [xup_n c]
  rw [f] at h
  exact h
/-! in what order they are tried -/
abbrev nrP (A : Int → Int) (i b : Int) : Prop := (0 ≤ b ∧ b < A 0) ∧ nrB A (dL A i) b = true
def LTn (τ : Int → Int) (j : Int) (σ : Int → Int) : Prop := ∃ i, 0 ≤ i ∧ i ≤ j ∧ (∀ l, 0 ≤ l → l < i → σ l = τ l) ∧ σ i < τ i
def Dn (τ : Int → Int) (j : Int) (σ : Int → Int) : Prop := LTn τ j σ ∨ ∀ l, 0 ≤ l → l ≤ j → σ l = τ l
abbrev rs (A : Int → Int) (σ : Int → Int) : Prop := rsp A (dL A) (dN A) σ
theorem Dn_up {A τ σ : Int → Int} {j : Int} (hj : 0 ≤ j ∧ j < (dN A : Int)) (gap : ∀ q, τ j < q → q < 12 → ¬ nrP A j q) (h12 : A 0 ≤ 12) (hs : rs A σ) : Dn τ j σ ↔ Dn τ (j - 1) σ := by
  constructor
  · rintro (⟨i, i0, i1, i2, i3⟩ | w)
    · by_cases e : i = j
      · exact Or.inr (fun l l0 l1 => i2 l l0 (by omega))
      · exact Or.inl ⟨i, i0, by omega, i2, i3⟩
    · exact Or.inr (fun l l0 l1 => w l l0 (by omega))
  · rintro (⟨i, i0, i1, i2, i3⟩ | w)
    · exact Or.inl ⟨i, i0, by omega, i2, i3⟩
    · rcases Int.lt_trichotomy (σ j) (τ j) with q | q | q
      · exact Or.inl ⟨j, hj.1, Int.le_refl _, fun l l0 l1 => w l l0 (by omega), q⟩
      · exact Or.inr (fun l l0 l1 => by
          by_cases e : l = j
          · rw [e]
            exact q
          · exact w l l0 (by omega))
      · have nb := hs j hj.1 hj.2
        exact absurd nb (gap _ q (by omega))
theorem Dn_lt {A τ σ : Int → Int} {j p : Int} (hj : 0 ≤ j ∧ j < (dN A : Int)) (hp : τ j < p) (gap : ∀ q, τ j < q → q < p → ¬ nrP A j q) (hs : rs A σ) : Dn τ j σ ↔ LTn (xup τ j p) j σ := by
  constructor
  · rintro (⟨i, i0, i1, i2, i3⟩ | w)
    · refine ⟨i, i0, i1, fun l l0 l1 => ?_, ?_⟩
      · rw [xup_n (by omega)]
        exact i2 l l0 l1
      · by_cases e : i = j
        · rw [e, xup_a]
          rw [e] at i3
          omega
        · rw [xup_n e]
          exact i3
    · refine ⟨j, hj.1, Int.le_refl _, fun l l0 l1 => ?_, ?_⟩
      · rw [xup_n (by omega)]
        exact w l l0 (by omega)
      · rw [xup_a, w j hj.1 (Int.le_refl _)]
        exact hp
  · rintro ⟨i, i0, i1, i2, i3⟩
    have ag : ∀ l, 0 ≤ l → l < i → σ l = τ l := fun l l0 l1 => by
      have := i2 l l0 l1
      rw [xup_n (by omega)] at this
      exact this
    by_cases e : i = j
    · rw [e, xup_a] at i3
      rw [e] at ag
      rcases Int.lt_trichotomy (σ j) (τ j) with q | q | q
      · exact Or.inl ⟨j, hj.1, Int.le_refl _, ag, q⟩
      · exact Or.inr (fun l l0 l1 => by
          by_cases e : l = j
          · rw [e]
            exact q
          · exact ag l l0 (by omega))
      · exact absurd (hs j hj.1 hj.2) (gap _ q i3)
    · rw [xup_n e] at i3
      exact Or.inl ⟨i, i0, i1, ag, i3⟩
theorem Dn_dn {A τ σ : Int → Int} {j : Int} (hj : 0 ≤ j ∧ j + 1 < (dN A : Int)) (hs : rs A σ) : Dn (xup τ (j + 1) (-1)) (j + 1) σ ↔ LTn τ j σ := by
  have nn := hs (j + 1) (by omega) hj.2
  constructor
  · rintro (⟨i, i0, i1, i2, i3⟩ | w)
    · by_cases e : i = j + 1
      · rw [e, xup_a] at i3
        omega
      · rw [xup_n e] at i3
        refine ⟨i, i0, by omega, fun l l0 l1 => ?_, i3⟩
        have := i2 l l0 l1
        rw [xup_n (by omega)] at this
        exact this
    · have := w (j + 1) (by omega) (Int.le_refl _)
      rw [xup_a] at this
      omega
  · rintro ⟨i, i0, i1, i2, i3⟩
    refine Or.inl ⟨i, i0, by omega, fun l l0 l1 => ?_, ?_⟩
    · rw [xup_n (by omega)]
      exact i2 l l0 l1
    · rw [xup_n (by omega)]
      exact i3
/-- the best of those that were tried -/
def BST (A : Int → Int) (P : (Int → Int) → Prop) (H : PH) : Prop := (H 590 48 = -1 ∧ ∀ σ, rs A σ → ¬ P σ) ∨ ∃ χ, rs A χ ∧ P χ ∧ H 590 48 = toS A (dL A) χ (dN A) ∧ (∀ i, 0 ≤ i → i < (dN A : Int) → H 619 i = χ i) ∧ ∀ σ, rs A σ → P σ → toS A (dL A) χ (dN A) < toS A (dL A) σ (dN A) ∨ (toS A (dL A) χ (dN A) = toS A (dL A) σ (dN A) ∧ lx (dN A) χ σ)
theorem BST_to {A : Int → Int} {P Q : (Int → Int) → Prop} {H H' : PH} (h : BST A P H) (e : ∀ σ, rs A σ → (P σ ↔ Q σ)) (e48 : H' 590 48 = H 590 48) (e19 : H' 619 = H 619) : BST A Q H' := by
  rcases h with ⟨f, no⟩ | ⟨χ, c1, c2, c3, c4, c5⟩
  · exact Or.inl ⟨e48.trans f, fun σ hs q => no σ hs ((e σ hs).mpr q)⟩
  · exact Or.inr ⟨χ, c1, (e χ c1).mp c2, e48.trans c3, fun i i0 i1 => by rw [e19]; exact c4 i i0 i1, fun σ hs q => c5 σ hs ((e σ hs).mpr q)⟩
theorem BST_new {A τ : Int → Int} {H H' : PH} {j : Int} (ok : OKR A) (h5 : dN A ≤ 5) (hj : j + 1 = (dN A : Int)) (h : BST A (LTn τ j) H) (r : rs A τ) (hc : H 590 48 = -1 ∨ toS A (dL A) τ (dN A) < H 590 48) (e48 : H' 590 48 = toS A (dL A) τ (dN A)) (e19 : ∀ i, 0 ≤ i → i < (dN A : Int) → H' 619 i = τ i) : BST A (Dn τ j) H' := by
  refine Or.inr ⟨τ, r, Or.inr (fun _ _ _ => rfl), e48, e19, fun σ hs hp => ?_⟩
  rcases hp with lt | eq
  · rcases h with ⟨f, no⟩ | ⟨χ, c1, c2, c3, c4, c5⟩
    · exact absurd lt (no σ hs)
    · have b := toS_bd (σ := χ) ok.1 ok.2.2.2 (by omega : dN A ≤ 60) (dN_in ok.1 h5).1
      have m := c5 σ hs lt
      exact Or.inl (by omega)
  · have ag : ∀ l, 0 ≤ l → l < (dN A : Int) → τ l = σ l := fun l l0 l1 => (eq l l0 (by omega)).symm
    exact Or.inr ⟨toS_eq ag, Or.inl ag⟩
theorem BST_old {A τ : Int → Int} {H H' : PH} {j : Int} (hj : j + 1 = (dN A : Int)) (h : BST A (LTn τ j) H) (hc : ¬ H 590 48 = -1 ∧ ¬ toS A (dL A) τ (dN A) < H 590 48) (e48 : H' 590 48 = H 590 48) (e19 : H' 619 = H 619) : BST A (Dn τ j) H' := by
  rcases h with ⟨f, no⟩ | ⟨χ, c1, c2, c3, c4, c5⟩
  · exact absurd f hc.1
  · refine Or.inr ⟨χ, c1, Or.inl c2, e48.trans c3, fun i i0 i1 => by rw [e19]; exact c4 i i0 i1, fun σ hs hp => ?_⟩
    rcases hp with lt | eq
    · exact c5 σ hs lt
    · have ag : ∀ l, 0 ≤ l → l < (dN A : Int) → τ l = σ l := fun l l0 l1 => (eq l l0 (by omega)).symm
      have e : toS A (dL A) τ (dN A) = toS A (dL A) σ (dN A) := toS_eq ag
      by_cases q : toS A (dL A) χ (dN A) < toS A (dL A) σ (dN A)
      · exact Or.inl q
      · obtain ⟨i, i0, i1, i2, i3⟩ := c2
        exact Or.inr ⟨by omega, Or.inr ⟨i, i0, by omega, fun l l0 l1 => (i2 l l0 l1).trans (ag l l0 (by omega)), by rw [← ag i i0 (by omega)]; exact i3⟩⟩
/-! what stands while they are tried -/
def NV (A : Int → Int) (i b : Int) : Int := if b < A 0 ∧ nrB A (dL A i) b = true then 1 else 0
def StX (A : Int → Int) (H : PH) : Prop := H 591 = A ∧ H 590 47 = (dN A : Int) ∧ (∀ i, 0 ≤ i → i < (dN A : Int) → H 617 i = dL A i) ∧ ∀ i b, 0 ≤ i → i < (dN A : Int) → 0 ≤ b → b < 12 → H 620 (12 * i + b) = NV A i b
theorem StX_SC {A : Int → Int} {cs fs : List Int} {H H' : PH} (h : StX A H) (sc : SCm cs fs H H') (hc : ∀ c ∈ [591, 617, 620], ¬ c ∈ cs) (hf : ¬ 47 ∈ fs) : StX A H' := by
  obtain ⟨f1, f2, f3, f4⟩ := h
  refine ⟨(sc.1 591 (hc 591 (by decide)) (by decide)).trans f1, (sc.2 47 hf).trans f2, fun i i0 i1 => ?_, fun i b i0 i1 b0 b1 => ?_⟩
  · rw [sc.1 617 (hc 617 (by decide)) (by decide)]
    exact f3 i i0 i1
  · rw [sc.1 620 (hc 620 (by decide)) (by decide)]
    exact f4 i b i0 i1 b0 b1
def RT (A τ : Int → Int) (m : Nat) (H : PH) : Prop := ∀ b, 0 ≤ b → b < 12 → H 603 b = (tlZ A).2.2.1 b + exS A (dL A) τ b 0 m ∧ H 604 b = (tlZ A).2.2.2 b + exS A (dL A) τ b 1 m
theorem RT_fr {A τ : Int → Int} {m : Nat} {H H' : PH} (h : RT A τ m H) (e3 : H' 603 = H 603) (e4 : H' 604 = H 604) : RT A τ m H' := fun b b0 b1 => by
  rw [e3, e4]
  exact h b b0 b1
theorem RT_eq {A τ σ : Int → Int} {m m' : Nat} {H : PH} (h : RT A τ m H) (e : ∀ b sd, 0 ≤ b → exS A (dL A) σ b sd m' = exS A (dL A) τ b sd m) : RT A σ m' H := fun b b0 b1 => by
  rw [e b 0 b0, e b 1 b0]
  exact h b b0 b1
theorem sp_X12_offOf (b : Int) (H : PH) (ok : OKR (H 591)) (hb : 0 ≤ b ∧ b < H 591 0) (hx : 0 ≤ H 603 b ∧ H 603 b ≤ 70000) (hy : 0 ≤ H 604 b ∧ H 604 b ≤ 70000) : SPEC 260 [(2, 590), (0, b)] H (fun r H' => r = some (0, ofV (H 591) b (H 603 b) (H 604 b)) ∧ SCm [598] [] H H') := by
  intro E n res h
  have a0 := ok.1.1
  have z1 : zw (26 * b) = 26 * b := zw_lit (by omega) (by omega)
  have z2 : zw (92 + 26 * b) = 92 + 26 * b := zw_lit (by omega) (by omega)
  have z3 : zw (92 + 26 * b + 9) = 92 + 26 * b + 9 := zw_lit (by omega) (by omega)
  have h := call_runP 3 vm_X12_offOf h
  have h := xw_top (hd := []) 5 xD6_ok xc_X12_offOf xa_X12_offOf (t := 0) rfl h
  simp (maxDischargeDepth := 12) -implicitDefEqProofs [vb_X12_offOf_0, vb_X12_offOf_44, vb_X12_offOf_45, xI_0, xI_1, xI_3, xI_8, xI_14, xI_15, xI_25, xI_36, xI_40, xI_49, xI_51, xI_60, xI_61, xI_62, xw_X12_offOf_0, xw_X12_offOf_44, xw_X12_offOf_45, zw_lit, xB_c, xB_s, xB_n, i1_c, j2_c, k1_c, jJ_e, xlg, xls, xla, xpd, ppush, zw_m1, zw_m2, zw_m3, gf_12_0, gf_12_23, gf_12_24, tg_12_0, tg_12_23, tg_12_24, gv_590_0, gv_590_23, gv_590_24, xD1, xD2, xD3, xD4, xD5, xD6, xb1_0, z1, z2, z3] at h
  have h := h hb.1 (by omega) ok.1
  obtain ⟨r, H1, ⟨rfl, sc⟩, h⟩ := xc_use h (sp_X12_agree (H 603 b) (H 604 b) (H 591 (92 + 26 * b + 9)) H ok.2.1)
  have d := dueA_in ok.1 ok.2.2.2 hb
  have g := agA_in (H 591) (x := H 603 b) (y := H 604 b) (c := H 591 (92 + 26 * b + 9)) (by omega) (by omega)
  obtain ⟨v, hv⟩ : ∃ v, v = dueA (H 591) b - agA (H 591) (H 603 b) (H 604 b) (H 591 (92 + 26 * b + 9)) := ⟨_, rfl⟩
  have zv : zw (dueA (H 591) b - agA (H 591) (H 603 b) (H 604 b) (H 591 (92 + 26 * b + 9))) = v := by rw [← hv]; exact zw_lit (by omega) (by omega)
  have ng : q1 (fun x => -x) v = -v := ng_q1 (by omega) (by omega)
  by_cases c : 0 ≤ v
  · have c' : ¬ v < 0 := by omega
    simp (maxDischargeDepth := 12) -implicitDefEqProofs [vb_X12_offOf_0, vb_X12_offOf_44, vb_X12_offOf_45, xI_0, xI_1, xI_3, xI_8, xI_14, xI_15, xI_25, xI_36, xI_40, xI_49, xI_51, xI_60, xI_61, xI_62, xw_X12_offOf_0, xw_X12_offOf_44, xw_X12_offOf_45, zw_lit, xB_c, xB_s, xB_n, i1_c, j2_c, k1_c, jJ_e, xlg, xls, xla, xpd, ppush, zw_m1, zw_m2, zw_m3, gf_12_0, gf_12_23, gf_12_24, tg_12_0, tg_12_23, tg_12_24, gv_590_0, gv_590_23, gv_590_24, xD1, xD2, xD3, xD4, xD5, xD6, xb1_0, zv, c, c'] at h
    exact ⟨_, H1, h, by unfold ofV; rw [← hv, if_pos c], sc⟩
  · have c' : v < 0 := by omega
    simp (maxDischargeDepth := 12) -implicitDefEqProofs [vb_X12_offOf_0, vb_X12_offOf_44, vb_X12_offOf_45, xI_0, xI_1, xI_3, xI_8, xI_14, xI_15, xI_25, xI_36, xI_40, xI_49, xI_51, xI_60, xI_61, xI_62, xw_X12_offOf_0, xw_X12_offOf_44, xw_X12_offOf_45, zw_lit, xB_c, xB_s, xB_n, i1_c, j2_c, k1_c, jJ_e, xlg, xls, xla, xpd, ppush, zw_m1, zw_m2, zw_m3, gf_12_0, gf_12_23, gf_12_24, tg_12_0, tg_12_23, tg_12_24, gv_590_0, gv_590_23, gv_590_24, xD1, xD2, xD3, xD4, xD5, xD6, xb1_0, zv, c, c', ng] at h
    exact ⟨_, H1, h, by unfold ofV; rw [← hv, if_neg c], sc⟩
theorem sp_m_lineApart (k b : Int) (H : PH) (hB : MB (H 591)) (hk : 0 ≤ k ∧ k < 60) (hb : 0 ≤ b ∧ b < 12) : SPEC 196 [(2, 590), (0, k), (0, b)] H (fun r H' => r = some (0, lapA (H 591) k b) ∧ ∀ c, ¬ c = 599 → H' c = H c) := by
  intro E n res h
  have z1 : zw (12 * k) = 12 * k := zw_lit (by omega) (by omega)
  have z2 : zw (404 + 12 * k) = 404 + 12 * k := zw_lit (by omega) (by omega)
  have z3 : zw (404 + 12 * k + 3) = 404 + 12 * k + 3 := zw_lit (by omega) (by omega)
  have z4 : zw (404 + 12 * k + 4) = 404 + 12 * k + 4 := zw_lit (by omega) (by omega)
  have z5 : zw (26 * b) = 26 * b := zw_lit (by omega) (by omega)
  have z6 : zw (92 + 26 * b) = 92 + 26 * b := zw_lit (by omega) (by omega)
  have z7 : zw (92 + 26 * b + 1) = 92 + 26 * b + 1 := zw_lit (by omega) (by omega)
  have h := call_runP 3 vm_X12_lineApart h
  have h := xw_top (hd := []) 3 xD6_ok xc_X12_lineApart xa_X12_lineApart (t := 0) rfl h
  simp (maxDischargeDepth := 12) -implicitDefEqProofs [vb_X12_lineApart_0, xI_0, xI_1, xI_7, xI_14, xI_60, xI_61, xI_62, xw_X12_lineApart_0, zw_lit, xB_c, xB_s, xB_n, i1_c, j2_c, k1_c, jJ_e, xlg, xls, xla, xpd, ppush, zw_m1, zw_m2, zw_m3, xD1, xD2, xD3, xD4, xD5, xD6, xb1_0, z1, z2, z3, z4, z5, z6, z7] at h
  obtain ⟨r, H2, ⟨rfl, hf⟩, h⟩ := xc_use h (sp_X12_apartOf _ _ _ _ H (by omega) (hB.2.2.2.2.2.1 k hk.1 hk.2) (hB.2.2.2.1 b hb.1 hb.2) hB.2.1)
  simp (maxDischargeDepth := 12) -implicitDefEqProofs [vb_X12_lineApart_0, xI_0, xI_1, xI_7, xI_14, xI_60, xI_61, xI_62, xw_X12_lineApart_0, zw_lit, xB_c, xB_s, xB_n, i1_c, j2_c, k1_c, jJ_e, xlg, xls, xla, xpd, ppush, zw_m1, zw_m2, zw_m3, xD1, xD2, xD3, xD4, xD5, xD6, xb1_0] at h
  exact ⟨_, H2, h, rfl, hf⟩
theorem sp_X12_isNear (k b : Int) (H : PH) (hB : MB (H 591)) (hk : 0 ≤ k ∧ k < 60) (hb : 0 ≤ b ∧ b < H 591 0) : SPEC 258 [(2, 590), (0, k), (0, b)] H (fun r H' => r = some (0, if nrB (H 591) k b = true then 1 else 0) ∧ SCm [599] [17, 18, 19] H H') := by
  intro E n res h
  have a0 := hB.1
  have h0 : 0 < H 591 0 := by omega
  have z1 : zw (12 * k) = 12 * k := zw_lit (by omega) (by omega)
  have z2 : zw (404 + 12 * k) = 404 + 12 * k := zw_lit (by omega) (by omega)
  have z3 : zw (404 + 12 * k + 3) = 404 + 12 * k + 3 := zw_lit (by omega) (by omega)
  have z4 : zw (404 + 12 * k + 4) = 404 + 12 * k + 4 := zw_lit (by omega) (by omega)
  have h := call_runP 3 vm_X12_isNear h
  have h := xw_top (hd := []) 5 xD6_ok xc_X12_isNear xa_X12_isNear (t := 0) rfl h
  simp (maxDischargeDepth := 12) -implicitDefEqProofs [vb_X12_isNear_0, vb_X12_isNear_33, vb_X12_isNear_34, xI_0, xI_1, xI_7, xI_14, xI_36, xI_44, xI_49, xI_60, xI_61, xI_62, xw_X12_isNear_0, xw_X12_isNear_33, xw_X12_isNear_34, zw_lit, xB_c, xB_s, xB_n, i1_c, j2_c, k1_c, jJ_e, xlg, xls, xla, xpd, ppush, zw_m1, zw_m2, zw_m3, gf_12_17, tg_12_17, gv_590_17, xD1, xD2, xD3, xD4, xD5, xD6, xb1_0, z1, z2, z3, z4] at h
  obtain ⟨r, H1, ⟨rfl, ⟨x, y, hf⟩, sc⟩, h⟩ := xc_use h (sp_X12_layNear (404 + 12 * k + 3) (404 + 12 * k + 4) H hB (by omega) (hB.2.2.2.2.2.1 k hk.1 hk.2))
  have e3 : H1 591 = H 591 := sc.1 591 (by decide) (by decide)
  obtain ⟨e1, e2⟩ := nrZ_of hf
  have e1 : H1 590 19 = (nrZ (H 591) (404 + 12 * k + 3) (404 + 12 * k + 4)).1 := e1
  have po := nrZ_po (A := H 591) (k := k) h0
  have e17 : H1 590 17 = (nrZ (H 591) (404 + 12 * k + 3) (404 + 12 * k + 4)).2.2 := congrArg (fun t => t.2.2) (e2 (show ¬ H1 590 19 = 0 by omega))
  simp (maxDischargeDepth := 12) -implicitDefEqProofs [vb_X12_isNear_0, vb_X12_isNear_33, vb_X12_isNear_34, xI_0, xI_1, xI_7, xI_14, xI_36, xI_44, xI_49, xI_60, xI_61, xI_62, xw_X12_isNear_0, xw_X12_isNear_33, xw_X12_isNear_34, zw_lit, xB_c, xB_s, xB_n, i1_c, j2_c, k1_c, jJ_e, xlg, xls, xla, xpd, ppush, zw_m1, zw_m2, zw_m3, gf_12_17, tg_12_17, gv_590_17, xD1, xD2, xD3, xD4, xD5, xD6, xb1_0] at h
  obtain ⟨r, H2, ⟨rfl, f⟩, h⟩ := xc_use h (sp_m_lineApart k b H1 (by rw [e3]; exact hB) hk ⟨hb.1, by omega⟩)
  have f17 : H2 590 17 = (nrZ (H 591) (404 + 12 * k + 3) (404 + 12 * k + 4)).2.2 := by rw [f 590 (by decide)]; exact e17
  rw [e3] at h
  have fr : SCm [599] [17, 18, 19] H H2 := SCm_trans sc ⟨fun c a _ => f c (fun e => a (by rw [e]; decide)), fun i _ => congrFun (f 590 (by decide)) i⟩
  obtain ⟨u, hu⟩ : ∃ u, u = lapA (H 591) k b := ⟨_, rfl⟩
  obtain ⟨w, hw⟩ : ∃ w, w = (nrZ (H 591) (404 + 12 * k + 3) (404 + 12 * k + 4)).2.2 := ⟨_, rfl⟩
  have nq := nrB_nr (A := H 591) (k := k) (b := b) h0 hb
  rw [← hu, ← hw] at nq
  rw [← hu] at h
  rw [← hw] at f17
  by_cases c : nrB (H 591) k b = true
  · have q : (u = w) = True := eq_true (nq.mp c)
    simp (maxDischargeDepth := 12) -implicitDefEqProofs [vb_X12_isNear_0, vb_X12_isNear_33, vb_X12_isNear_34, xI_0, xI_1, xI_7, xI_14, xI_36, xI_44, xI_49, xI_60, xI_61, xI_62, xw_X12_isNear_0, xw_X12_isNear_33, xw_X12_isNear_34, zw_lit, xB_c, xB_s, xB_n, i1_c, j2_c, k1_c, jJ_e, xlg, xls, xla, xpd, ppush, zw_m1, zw_m2, zw_m3, gf_12_17, tg_12_17, gv_590_17, xD1, xD2, xD3, xD4, xD5, xD6, xb1_0, f17, q] at h
    exact ⟨_, H2, h, by rw [if_pos c], fr⟩
  · have q : ¬ u = w := fun x => c (nq.mpr x)
    simp (maxDischargeDepth := 12) -implicitDefEqProofs [vb_X12_isNear_0, vb_X12_isNear_33, vb_X12_isNear_34, xI_0, xI_1, xI_7, xI_14, xI_36, xI_44, xI_49, xI_60, xI_61, xI_62, xw_X12_isNear_0, xw_X12_isNear_33, xw_X12_isNear_34, zw_lit, xB_c, xB_s, xB_n, i1_c, j2_c, k1_c, jJ_e, xlg, xls, xla, xpd, ppush, zw_m1, zw_m2, zw_m3, gf_12_17, tg_12_17, gv_590_17, xD1, xD2, xD3, xD4, xD5, xD6, xb1_0, f17, q] at h
    exact ⟨_, H2, h, by rw [if_neg c], fr⟩
theorem sp_X12_comesTo (k b g : Int) (H : PH) (hk : 0 ≤ k ∧ k < 60) : SPEC 259 [(2, 590), (0, k), (0, b), (0, g)] H (fun r H' => r = none ∧ ((H 591 (404 + 12 * k) = 0 ∧ H' = pup H 603 b (zw (H 603 b + zw (g * H 591 (404 + 12 * k + 2))))) ∨ (¬ H 591 (404 + 12 * k) = 0 ∧ H' = pup H 604 b (zw (H 604 b + zw (g * H 591 (404 + 12 * k + 2))))))) := by
  intro E n res h
  have z1 : zw (12 * k) = 12 * k := zw_lit (by omega) (by omega)
  have z2 : zw (404 + 12 * k) = 404 + 12 * k := zw_lit (by omega) (by omega)
  have z3 : zw (404 + 12 * k + 2) = 404 + 12 * k + 2 := zw_lit (by omega) (by omega)
  by_cases c : H 591 (404 + 12 * k) = 0
  · have h := call_runP 5 vm_X12_comesTo h
    have h := xw_top (hd := []) 5 xD6_ok xc_X12_comesTo xa_X12_comesTo (t := 0) rfl h
    simp (maxDischargeDepth := 12) -implicitDefEqProofs [vb_X12_comesTo_0, vb_X12_comesTo_43, vb_X12_comesTo_54, xI_0, xI_1, xI_3, xI_7, xI_14, xI_16, xI_34, xI_36, xI_38, xI_49, xI_51, xI_52, xI_60, xI_65, xw_X12_comesTo_0, xw_X12_comesTo_43, xw_X12_comesTo_54, zw_lit, xB_c, xB_s, xB_n, i1_c, j2_c, k1_c, jJ_e, xlg, xls, xla, xpd, ppush, zw_m1, zw_m2, zw_m3, gf_12_0, gf_12_23, gf_12_24, tg_12_0, tg_12_23, tg_12_24, gv_590_0, gv_590_23, gv_590_24, xD1, xD2, xD3, xD4, xD5, xD6, xb1_0, z1, z2, z3, c] at h
    exact ⟨_, _, h, rfl, Or.inl ⟨c, rfl⟩⟩
  · have h := call_runP 5 vm_X12_comesTo h
    have h := xw_top (hd := []) 5 xD6_ok xc_X12_comesTo xa_X12_comesTo (t := 0) rfl h
    simp (maxDischargeDepth := 12) -implicitDefEqProofs [vb_X12_comesTo_0, vb_X12_comesTo_43, vb_X12_comesTo_54, xI_0, xI_1, xI_3, xI_7, xI_14, xI_16, xI_34, xI_36, xI_38, xI_49, xI_51, xI_52, xI_60, xI_65, xw_X12_comesTo_0, xw_X12_comesTo_43, xw_X12_comesTo_54, zw_lit, xB_c, xB_s, xB_n, i1_c, j2_c, k1_c, jJ_e, xlg, xls, xla, xpd, ppush, zw_m1, zw_m2, zw_m3, gf_12_0, gf_12_23, gf_12_24, tg_12_0, tg_12_23, tg_12_24, gv_590_0, gv_590_23, gv_590_24, xD1, xD2, xD3, xD4, xD5, xD6, xb1_0, z1, z2, z3, c] at h
    exact ⟨_, _, h, rfl, Or.inr ⟨c, rfl⟩⟩
theorem sp_X12_takes_ (j b g w x' y' : Int) (H : PH) (ok : OKR (H 591)) (hk : 0 ≤ H 617 j ∧ H 617 j < H 591 2) (hb : 0 ≤ b ∧ b < H 591 0) (hg : g = 1 ∨ g = -1) (hw : w = g * H 591 (404 + 12 * H 617 j + 2)) (hx : 0 ≤ H 603 b ∧ H 603 b ≤ 70000) (hy : 0 ≤ H 604 b ∧ H 604 b ≤ 70000) (ex : x' = if H 591 (404 + 12 * H 617 j) = 0 then H 603 b + w else H 603 b) (ey : y' = if H 591 (404 + 12 * H 617 j) = 0 then H 604 b else H 604 b + w) (hx' : 0 ≤ x' ∧ x' ≤ 70000) (hy' : 0 ≤ y' ∧ y' ≤ 70000) : SPEC 262 [(2, 590), (0, j), (0, b), (0, g)] H (fun r H' => r = some (0, ofV (H 591) b x' y' - ofV (H 591) b (H 603 b) (H 604 b)) ∧ (∀ i, H' 603 i = if i = b then x' else H 603 i) ∧ (∀ i, H' 604 i = if i = b then y' else H 604 i) ∧ SCm [598, 603, 604] [] H H') := by
  intro E n res h
  have a2 := ok.1.2.2.1
  have oc := (ok.2.2.2.2 (H 617 j) hk.1 hk.2).2.2
  have zg : zw (g * H 591 (404 + 12 * H 617 j + 2)) = w := by
    rw [hw]
    rcases hg with rfl | rfl
    · exact zw_lit (by omega) (by omega)
    · exact zw_lit (by omega) (by omega)
  have h := call_runP 5 vm_X12_takes_ h
  have h := xw_top (hd := []) 3 xD6_ok xc_X12_takes_ xa_X12_takes_ (t := 0) rfl h
  simp (maxDischargeDepth := 12) -implicitDefEqProofs [vb_X12_takes__0, xI_0, xI_1, xI_3, xI_15, xI_49, xI_51, xI_61, xI_62, xw_X12_takes__0, zw_lit, xB_c, xB_s, xB_n, i1_c, j2_c, k1_c, jJ_e, xlg, xls, xla, xpd, ppush, zw_m1, zw_m2, zw_m3, gf_12_44, tg_12_44, gv_590_44, xD1, xD2, xD3, xD4, xD5, xD6, xb1_0] at h
  obtain ⟨r, H1, ⟨rfl, sc⟩, h⟩ := xc_use h (sp_X12_offOf b H ok hb hx hy)
  have e91 : H1 591 = H 591 := sc.1 591 (by decide) (by decide)
  have e17 : H1 617 = H 617 := sc.1 617 (by decide) (by decide)
  have e03 : H1 603 = H 603 := sc.1 603 (by decide) (by decide)
  have e04 : H1 604 = H 604 := sc.1 604 (by decide) (by decide)
  simp (maxDischargeDepth := 12) -implicitDefEqProofs [vb_X12_takes__0, xI_0, xI_1, xI_3, xI_15, xI_49, xI_51, xI_61, xI_62, xw_X12_takes__0, zw_lit, xB_c, xB_s, xB_n, i1_c, j2_c, k1_c, jJ_e, xlg, xls, xla, xpd, ppush, zw_m1, zw_m2, zw_m3, gf_12_44, tg_12_44, gv_590_44, xD1, xD2, xD3, xD4, xD5, xD6, xb1_0, e17] at h
  obtain ⟨r, H2, ⟨rfl, p⟩, h⟩ := xc_use h (sp_X12_comesTo (H 617 j) b g H1 ⟨hk.1, by omega⟩)
  rw [e91, e03, e04, zg] at p
  have hP : (∀ i, H2 603 i = if i = b then x' else H 603 i) ∧ (∀ i, H2 604 i = if i = b then y' else H 604 i) ∧ SCm [603, 604] [] H1 H2 := by
    rcases p with ⟨c, e⟩ | ⟨c, e⟩
    · rw [if_pos c] at ex ey
      rw [← ex, zw_lit (x := x') (by omega) (by omega)] at e
      refine ⟨fun i => ?_, fun i => ?_, by rw [e]; exact SCm_cell (by decide) (by decide)⟩
      · rw [e, xp_at, e03]
      · rw [e, xp_ne (by decide), e04]
        split
        · rename_i q
          rw [q]
          exact ey.symm
        · rfl
    · rw [if_neg c] at ex ey
      rw [← ey, zw_lit (x := y') (by omega) (by omega)] at e
      refine ⟨fun i => ?_, fun i => ?_, by rw [e]; exact SCm_cell (by decide) (by decide)⟩
      · rw [e, xp_ne (by decide), e03]
        split
        · rename_i q
          rw [q]
          exact ex.symm
        · rfl
      · rw [e, xp_at, e04]
  obtain ⟨hX, hY, sc2⟩ := hP
  have f91 : H2 591 = H 591 := (sc2.1 591 (by decide) (by decide)).trans e91
  have xb : H2 603 b = x' := by rw [hX, if_pos rfl]
  have yb : H2 604 b = y' := by rw [hY, if_pos rfl]
  simp (maxDischargeDepth := 12) -implicitDefEqProofs [vb_X12_takes__0, xI_0, xI_1, xI_3, xI_15, xI_49, xI_51, xI_61, xI_62, xw_X12_takes__0, zw_lit, xB_c, xB_s, xB_n, i1_c, j2_c, k1_c, jJ_e, xlg, xls, xla, xpd, ppush, zw_m1, zw_m2, zw_m3, gf_12_44, tg_12_44, gv_590_44, xD1, xD2, xD3, xD4, xD5, xD6, xb1_0] at h
  obtain ⟨r, H3, ⟨rfl, sc3⟩, h⟩ := xc_use h (sp_X12_offOf b H2 (by rw [f91]; exact ok) (by rw [f91]; exact hb) (by rw [xb]; exact hx') (by rw [yb]; exact hy'))
  rw [f91, xb, yb] at h
  have v1 := ofV_in ok.1 ok.2.2.2 hb hx' hy'
  have v2 := ofV_in ok.1 ok.2.2.2 hb hx hy
  have zr : zw (ofV (H 591) b x' y' - ofV (H 591) b (H 603 b) (H 604 b)) = ofV (H 591) b x' y' - ofV (H 591) b (H 603 b) (H 604 b) := zw_lit (by omega) (by omega)
  simp (maxDischargeDepth := 12) -implicitDefEqProofs [vb_X12_takes__0, xI_0, xI_1, xI_3, xI_15, xI_49, xI_51, xI_61, xI_62, xw_X12_takes__0, zw_lit, xB_c, xB_s, xB_n, i1_c, j2_c, k1_c, jJ_e, xlg, xls, xla, xpd, ppush, zw_m1, zw_m2, zw_m3, gf_12_44, tg_12_44, gv_590_44, xD1, xD2, xD3, xD4, xD5, xD6, xb1_0, zr] at h
  exact ⟨_, H3, h, rfl, fun i => by rw [sc3.1 603 (by decide) (by decide)]; exact hX i, fun i => by rw [sc3.1 604 (by decide) (by decide)]; exact hY i, SCm_trans (SCm_sub sc (by decide) (by decide)) (SCm_trans (SCm_sub sc2 (by decide) (by decide)) (SCm_sub sc3 (by decide) (by decide)))⟩
theorem sp_tk_add (j p : Int) (τ A : Int → Int) (H : PH) (ok : OKR A) (h5 : dN A ≤ 5) (fx : StX A H) (hj : 0 ≤ j ∧ j < (dN A : Int)) (hp : 0 ≤ p ∧ p < A 0) (rt : RT A τ j.toNat H) : SPEC 262 [(2, 590), (0, j), (0, p), (0, 1)] H (fun r H' => r = some (0, toS A (dL A) (xup τ j p) (j.toNat + 1) - toS A (dL A) τ j.toNat) ∧ RT A (xup τ j p) (j.toNat + 1) H' ∧ SCm [598, 603, 604] [] H H') := by
  intro E n res h
  have e91 := fx.1
  have a0 := ok.1.1
  have dd := (dN_in ok.1 h5).1
  have dj := dd j hj.1 hj.2
  have ek := fx.2.2.1 j hj.1 hj.2
  have oc := ok.2.2.2.2 (dL A j) dj.1 dj.2
  have rp := rt p hp.1 (by omega)
  have tb := tlZ_bd ok.1 ok.2.2.2 p
  have b0 := exS_bd ok.2.2.2 (σ := τ) (b := p) (sd := 0) j.toNat (fun i i0 i1 => dd i i0 (by omega))
  have b1 := exS_bd ok.2.2.2 (σ := τ) (b := p) (sd := 1) j.toNat (fun i i0 i1 => dd i i0 (by omega))
  have q : ∀ sd, exS A (dL A) (xup τ j p) p sd (j.toNat + 1) = exS A (dL A) τ p sd j.toNat + (if A (404 + 12 * dL A j) = sd then A (404 + 12 * dL A j + 2) else 0) := fun sd => by
    rw [exS_at hj.1, exS_lo hj.1, xup_a]
    by_cases c : A (404 + 12 * dL A j) = sd
    · rw [if_pos ⟨rfl, c⟩, if_pos c]
    · rw [if_neg (fun w : p = p ∧ A (404 + 12 * dL A j) = sd => c w.2), if_neg c]
  have q0 := q 0
  have q1 := q 1
  obtain ⟨x', ex⟩ : ∃ x', x' = (tlZ A).2.2.1 p + exS A (dL A) (xup τ j p) p 0 (j.toNat + 1) := ⟨_, rfl⟩
  obtain ⟨y', ey⟩ : ∃ y', y' = (tlZ A).2.2.2 p + exS A (dL A) (xup τ j p) p 1 (j.toNat + 1) := ⟨_, rfl⟩
  have hx' : 0 ≤ x' ∧ x' ≤ 70000 := by
    rw [ex, q0]
    split <;> omega
  have hy' : 0 ≤ y' ∧ y' ≤ 70000 := by
    rw [ey, q1]
    split <;> omega
  obtain ⟨r, H1, g, rfl, x1, x2, sc⟩ := sp_X12_takes_ j p 1 (A (404 + 12 * dL A j + 2)) x' y' H (by rw [e91]; exact ok) (by rw [ek, e91]; exact dj) (by rw [e91]; exact hp) (Or.inl rfl) (by rw [e91, ek, Int.one_mul]) (by omega) (by omega) (by
    rw [e91, ek, rp.1, ex, q0]
    split <;> omega) (by
    rw [e91, ek, rp.2, ey, q1]
    have o1 := oc.1
    by_cases c : A (404 + 12 * dL A j) = 0
    · rw [if_pos c, if_neg (by omega)]
      omega
    · rw [if_neg c, if_pos (by omega)]
      omega) hx' hy' E n res h
  refine ⟨_, H1, g, ?_, fun b c0 c1 => ?_, sc⟩
  · have t := toS_st (A := A) (D := dL A) (σ := xup τ j p) hj.1 (by rw [xup_a]; exact hp)
    rw [xup_a, exS_lo hj.1, exS_lo hj.1, toS_lo hj.1] at t
    rw [e91, rp.1, rp.2, ex, ey, ofV_co, ofV_co, t]
    congr 2
    omega
  · by_cases c : b = p
    · rw [x1 b, x2 b, if_pos c, if_pos c, c]
      exact ⟨ex, ey⟩
    · have nb : ¬ xup τ j p j = b := by rw [xup_a]; omega
      rw [x1 b, x2 b, if_neg c, if_neg c, exS_no hj.1 nb, exS_no hj.1 nb, exS_lo hj.1, exS_lo hj.1]
      exact rt b c0 c1
theorem sp_tk_sub (j : Int) (τ A : Int → Int) (H : PH) (ok : OKR A) (h5 : dN A ≤ 5) (fx : StX A H) (hj : 0 ≤ j ∧ j < (dN A : Int)) (hp : 0 ≤ τ j ∧ τ j < A 0) (rt : RT A τ (j.toNat + 1) H) : SPEC 262 [(2, 590), (0, j), (0, τ j), (0, -1)] H (fun r H' => r = some (0, toS A (dL A) τ j.toNat - toS A (dL A) τ (j.toNat + 1)) ∧ RT A τ j.toNat H' ∧ SCm [598, 603, 604] [] H H') := by
  intro E n res h
  have e91 := fx.1
  have a0 := ok.1.1
  have dd := (dN_in ok.1 h5).1
  have dj := dd j hj.1 hj.2
  have ek := fx.2.2.1 j hj.1 hj.2
  have oc := ok.2.2.2.2 (dL A j) dj.1 dj.2
  have rp := rt (τ j) hp.1 (by omega)
  have tb := tlZ_bd ok.1 ok.2.2.2 (τ j)
  have b0 := exS_bd ok.2.2.2 (σ := τ) (b := τ j) (sd := 0) j.toNat (fun i i0 i1 => dd i i0 (by omega))
  have b1 := exS_bd ok.2.2.2 (σ := τ) (b := τ j) (sd := 1) j.toNat (fun i i0 i1 => dd i i0 (by omega))
  have q : ∀ sd, exS A (dL A) τ (τ j) sd (j.toNat + 1) = exS A (dL A) τ (τ j) sd j.toNat + (if A (404 + 12 * dL A j) = sd then A (404 + 12 * dL A j + 2) else 0) := fun sd => by
    rw [exS_at hj.1]
    by_cases c : A (404 + 12 * dL A j) = sd
    · rw [if_pos ⟨rfl, c⟩, if_pos c]
    · rw [if_neg (fun w : τ j = τ j ∧ A (404 + 12 * dL A j) = sd => c w.2), if_neg c]
  have q0 := q 0
  have q1 := q 1
  obtain ⟨x', ex⟩ : ∃ x', x' = (tlZ A).2.2.1 (τ j) + exS A (dL A) τ (τ j) 0 j.toNat := ⟨_, rfl⟩
  obtain ⟨y', ey⟩ : ∃ y', y' = (tlZ A).2.2.2 (τ j) + exS A (dL A) τ (τ j) 1 j.toNat := ⟨_, rfl⟩
  have hx : 0 ≤ H 603 (τ j) ∧ H 603 (τ j) ≤ 70000 := by
    rw [rp.1, q0]
    split <;> omega
  have hy : 0 ≤ H 604 (τ j) ∧ H 604 (τ j) ≤ 70000 := by
    rw [rp.2, q1]
    split <;> omega
  obtain ⟨r, H1, g, rfl, x1, x2, sc⟩ := sp_X12_takes_ j (τ j) (-1) (-(A (404 + 12 * dL A j + 2))) x' y' H (by rw [e91]; exact ok) (by rw [ek, e91]; exact dj) (by rw [e91]; exact hp) (Or.inr rfl) (by rw [e91, ek]; omega) hx hy (by
    rw [e91, ek, rp.1, ex, q0]
    split <;> omega) (by
    rw [e91, ek, rp.2, ey, q1]
    have o1 := oc.1
    by_cases c : A (404 + 12 * dL A j) = 0
    · rw [if_pos c, if_neg (by omega)]
      omega
    · rw [if_neg c, if_pos (by omega)]
      omega) (by omega) (by omega) E n res h
  refine ⟨_, H1, g, ?_, fun b c0 c1 => ?_, sc⟩
  · have t := toS_st (A := A) (D := dL A) (σ := τ) hj.1 hp
    rw [e91, rp.1, rp.2, ex, ey, ofV_co, ofV_co, t]
    congr 2
    omega
  · by_cases c : b = τ j
    · rw [x1 b, x2 b, if_pos c, if_pos c, c]
      exact ⟨ex, ey⟩
    · have nb : ¬ τ j = b := by omega
      have r := rt b c0 c1
      rw [exS_no hj.1 nb, exS_no hj.1 nb] at r
      rw [x1 b, x2 b, if_neg c, if_neg c]
      exact r
set_option maxRecDepth 100000 in
theorem lp_sg11 (A : Int → Int) (Hl : PH) (hB : MB A) (e91 : Hl 591 = A) (h600 : ∀ x, 0 ≤ x → x < A 2 → Hl 600 x = rdL A x) (x y z : Int) {E : xE} {res : xR} : ∀ (n : Nat) (k : Int) (H : PH), 0 ≤ k → k ≤ A 2 → SCm [617] [47] Hl H → (H 590 47 = (dbS A k.toNat).1 ∧ ∀ i, 0 ≤ i → i < (dbS A k.toNat).1 → H 617 i = (dbS A k.toNat).2 i) → RUN E res n kd_X12_laySettled (zget kd_X12_laySettled 11) 11 [590, k, x, y, z] [] H → ∃ (H' : PH) (k' : Int), SCm [617] [47] Hl H' ∧ H' 590 47 = (dbZ A).1 ∧ (∀ i, 0 ≤ i → i < (dbZ A).1 → H' 617 i = (dbZ A).2 i) ∧ xJ E res n kd_X12_laySettled 61 [590, k', x, y, z] [] H' := by
  have a2 := hB.2.2.1
  intro n
  induction n using Nat.strongRecOn with
  | _ n ih =>
    intro k H k0 k1 sc hL h
    have e4 : H 591 2 = A 2 := by rw [sc.1 591 (by decide) (by decide), e91]
    obtain ⟨s1, s2⟩ := dbS_in A k.toNat
    by_cases c : k < A 2
    · have c' : ¬ A 2 ≤ k := by omega
      have z1 : zw (k + 1) = k + 1 := zw_lit (by omega) (by omega)
      have er : H 600 k = rdL A k := by rw [sc.1 600 (by decide) (by decide)]; exact h600 k k0 c
      have kn : ((k.toNat : Nat) : Int) = k := by omega
      have es := dbS_S A k.toNat
      rw [kn] at es
      have st : (k + 1).toNat = k.toNat + 1 := by omega
      have e3 := hL.1
      by_cases q : rdL A k = -2
      · rw [if_pos q] at es
        have zc : zw ((dbS A k.toNat).1 + 1) = (dbS A k.toNat).1 + 1 := zw_lit (by omega) (by omega)
        have h := xw_top (hd := [11, 61, 79, 105, 115, 185, 223, 249, 325]) 26 xD6_ok xc_X12_laySettled xa_X12_laySettled (t := 11) rfl h
        simp (maxDischargeDepth := 12) -implicitDefEqProofs [vb_X12_laySettled_0, vb_X12_laySettled_11, vb_X12_laySettled_35, vb_X12_laySettled_55, vb_X12_laySettled_61, vb_X12_laySettled_75, vb_X12_laySettled_79, vb_X12_laySettled_103, vb_X12_laySettled_105, vb_X12_laySettled_115, vb_X12_laySettled_157, vb_X12_laySettled_158, vb_X12_laySettled_165, vb_X12_laySettled_171, vb_X12_laySettled_185, vb_X12_laySettled_214, vb_X12_laySettled_223, vb_X12_laySettled_249, vb_X12_laySettled_268, vb_X12_laySettled_301, vb_X12_laySettled_317, vb_X12_laySettled_325, vb_X12_laySettled_354, vb_X12_laySettled_357, xI_0, xI_1, xI_3, xI_6, xI_7, xI_8, xI_14, xI_16, xI_33, xI_36, xI_37, xI_38, xI_39, xI_43, xI_44, xI_46, xI_49, xI_50, xI_51, xI_52, xI_57, xI_58, xI_60, xI_61, xI_62, xw_X12_laySettled_0, xw_X12_laySettled_11, xw_X12_laySettled_35, xw_X12_laySettled_55, xw_X12_laySettled_61, xw_X12_laySettled_75, xw_X12_laySettled_79, xw_X12_laySettled_103, xw_X12_laySettled_105, xw_X12_laySettled_115, xw_X12_laySettled_157, xw_X12_laySettled_158, xw_X12_laySettled_165, xw_X12_laySettled_171, xw_X12_laySettled_185, xw_X12_laySettled_214, xw_X12_laySettled_223, xw_X12_laySettled_249, xw_X12_laySettled_268, xw_X12_laySettled_301, xw_X12_laySettled_317, xw_X12_laySettled_325, xw_X12_laySettled_354, xw_X12_laySettled_357, zw_lit, xB_c, xB_s, xB_n, i1_c, j2_c, k1_c, jJ_e, xlg, xls, xla, xpd, ppush, zw_m1, zw_m2, zw_m3, gf_12_0, gf_12_20, gf_12_44, gf_12_45, gf_12_46, gf_12_47, gf_12_48, gf_12_49, pf_12_47, pf_12_48, tg_12_0, tg_12_20, tg_12_44, tg_12_45, tg_12_46, tg_12_47, tg_12_48, tg_12_49, gv_590_0, gv_590_20, gv_590_44, gv_590_45, gv_590_46, gv_590_47, gv_590_48, gv_590_49, xD1, xD2, xD3, xD4, xD5, xD6, xb1_0, e4, c, c', er, q, e3, z1, zc, xp_ne] at h
        obtain ⟨m, hm, h⟩ := h
        have f1 : (dbS A (k + 1).toNat).1 = (dbS A k.toNat).1 + 1 := by rw [st, es]
        have f2 : (dbS A (k + 1).toNat).2 = xup (dbS A k.toNat).2 (dbS A k.toNat).1 k := by rw [st, es]
        obtain ⟨H', k', j1, j2, j3, j4⟩ := ih m hm (k + 1) _ (by omega) (by omega) (SCm_trans sc (SCm_trans (SCm_cell (by decide) (by decide)) (SCm_fld (by decide)))) ⟨by rw [xp_at, if_pos rfl, f1], fun i i0 i1 => by
          rw [f1] at i1
          rw [f2, xp_ne (by decide), xp_at]
          unfold xup
          by_cases e : i = (dbS A k.toNat).1
          · rw [if_pos e, if_pos e]
          · rw [if_neg e, if_neg e]
            exact hL.2 i i0 (by omega)⟩ h
        exact ⟨H', k', j1, j2, j3, xJ_up j4 (by omega)⟩
      · rw [if_neg q] at es
        have h := xw_top (hd := [11, 61, 79, 105, 115, 185, 223, 249, 325]) 26 xD6_ok xc_X12_laySettled xa_X12_laySettled (t := 11) rfl h
        simp (maxDischargeDepth := 12) -implicitDefEqProofs [vb_X12_laySettled_0, vb_X12_laySettled_11, vb_X12_laySettled_35, vb_X12_laySettled_55, vb_X12_laySettled_61, vb_X12_laySettled_75, vb_X12_laySettled_79, vb_X12_laySettled_103, vb_X12_laySettled_105, vb_X12_laySettled_115, vb_X12_laySettled_157, vb_X12_laySettled_158, vb_X12_laySettled_165, vb_X12_laySettled_171, vb_X12_laySettled_185, vb_X12_laySettled_214, vb_X12_laySettled_223, vb_X12_laySettled_249, vb_X12_laySettled_268, vb_X12_laySettled_301, vb_X12_laySettled_317, vb_X12_laySettled_325, vb_X12_laySettled_354, vb_X12_laySettled_357, xI_0, xI_1, xI_3, xI_6, xI_7, xI_8, xI_14, xI_16, xI_33, xI_36, xI_37, xI_38, xI_39, xI_43, xI_44, xI_46, xI_49, xI_50, xI_51, xI_52, xI_57, xI_58, xI_60, xI_61, xI_62, xw_X12_laySettled_0, xw_X12_laySettled_11, xw_X12_laySettled_35, xw_X12_laySettled_55, xw_X12_laySettled_61, xw_X12_laySettled_75, xw_X12_laySettled_79, xw_X12_laySettled_103, xw_X12_laySettled_105, xw_X12_laySettled_115, xw_X12_laySettled_157, xw_X12_laySettled_158, xw_X12_laySettled_165, xw_X12_laySettled_171, xw_X12_laySettled_185, xw_X12_laySettled_214, xw_X12_laySettled_223, xw_X12_laySettled_249, xw_X12_laySettled_268, xw_X12_laySettled_301, xw_X12_laySettled_317, xw_X12_laySettled_325, xw_X12_laySettled_354, xw_X12_laySettled_357, zw_lit, xB_c, xB_s, xB_n, i1_c, j2_c, k1_c, jJ_e, xlg, xls, xla, xpd, ppush, zw_m1, zw_m2, zw_m3, gf_12_0, gf_12_20, gf_12_44, gf_12_45, gf_12_46, gf_12_47, gf_12_48, gf_12_49, pf_12_47, pf_12_48, tg_12_0, tg_12_20, tg_12_44, tg_12_45, tg_12_46, tg_12_47, tg_12_48, tg_12_49, gv_590_0, gv_590_20, gv_590_44, gv_590_45, gv_590_46, gv_590_47, gv_590_48, gv_590_49, xD1, xD2, xD3, xD4, xD5, xD6, xb1_0, e4, c, c', er, q, z1] at h
        obtain ⟨m, hm, h⟩ := h
        obtain ⟨H', k', j1, j2, j3, j4⟩ := ih m hm (k + 1) H (by omega) (by omega) sc (by rw [st, es]; exact hL) h
        exact ⟨H', k', j1, j2, j3, xJ_up j4 (by omega)⟩
    · have c' : A 2 ≤ k := by omega
      have ek : k.toNat = (A 2).toNat := by omega
      have h := xw_top (hd := [11, 61, 79, 105, 115, 185, 223, 249, 325]) 26 xD6_ok xc_X12_laySettled xa_X12_laySettled (t := 11) rfl h
      simp (maxDischargeDepth := 12) -implicitDefEqProofs [vb_X12_laySettled_0, vb_X12_laySettled_11, vb_X12_laySettled_35, vb_X12_laySettled_55, vb_X12_laySettled_61, vb_X12_laySettled_75, vb_X12_laySettled_79, vb_X12_laySettled_103, vb_X12_laySettled_105, vb_X12_laySettled_115, vb_X12_laySettled_157, vb_X12_laySettled_158, vb_X12_laySettled_165, vb_X12_laySettled_171, vb_X12_laySettled_185, vb_X12_laySettled_214, vb_X12_laySettled_223, vb_X12_laySettled_249, vb_X12_laySettled_268, vb_X12_laySettled_301, vb_X12_laySettled_317, vb_X12_laySettled_325, vb_X12_laySettled_354, vb_X12_laySettled_357, xI_0, xI_1, xI_3, xI_6, xI_7, xI_8, xI_14, xI_16, xI_33, xI_36, xI_37, xI_38, xI_39, xI_43, xI_44, xI_46, xI_49, xI_50, xI_51, xI_52, xI_57, xI_58, xI_60, xI_61, xI_62, xw_X12_laySettled_0, xw_X12_laySettled_11, xw_X12_laySettled_35, xw_X12_laySettled_55, xw_X12_laySettled_61, xw_X12_laySettled_75, xw_X12_laySettled_79, xw_X12_laySettled_103, xw_X12_laySettled_105, xw_X12_laySettled_115, xw_X12_laySettled_157, xw_X12_laySettled_158, xw_X12_laySettled_165, xw_X12_laySettled_171, xw_X12_laySettled_185, xw_X12_laySettled_214, xw_X12_laySettled_223, xw_X12_laySettled_249, xw_X12_laySettled_268, xw_X12_laySettled_301, xw_X12_laySettled_317, xw_X12_laySettled_325, xw_X12_laySettled_354, xw_X12_laySettled_357, zw_lit, xB_c, xB_s, xB_n, i1_c, j2_c, k1_c, jJ_e, xlg, xls, xla, xpd, ppush, zw_m1, zw_m2, zw_m3, gf_12_0, gf_12_20, gf_12_44, gf_12_45, gf_12_46, gf_12_47, gf_12_48, gf_12_49, pf_12_47, pf_12_48, tg_12_0, tg_12_20, tg_12_44, tg_12_45, tg_12_46, tg_12_47, tg_12_48, tg_12_49, gv_590_0, gv_590_20, gv_590_44, gv_590_45, gv_590_46, gv_590_47, gv_590_48, gv_590_49, xD1, xD2, xD3, xD4, xD5, xD6, xb1_0, e4, c, c'] at h
      rw [ek] at hL
      exact ⟨H, k, sc, hL.1, hL.2, h⟩
set_option maxRecDepth 100000 in
theorem lp_so79 (A : Int → Int) (ok : OKR A) (Hl : PH) (e91 : Hl 591 = A) (e03 : ∀ x, 0 ≤ x → x < 72 → Hl 603 x = (tlZ A).2.2.1 x) (e04 : ∀ x, 0 ≤ x → x < 72 → Hl 604 x = (tlZ A).2.2.2 x) (y z : Int) {E : xE} {res : xR} : ∀ (n : Nat) (b : Int) (H : PH), 0 ≤ b → b ≤ A 0 → SCm [598] [] Hl H → RUN E res n kd_X12_laySettled (zget kd_X12_laySettled 79) 79 [590, fdS (fun b => coS A b 0 0) b.toNat 0 0, b, y, z] [] H → ∃ H', SCm [598] [] Hl H' ∧ xJ E res n kd_X12_laySettled 105 [590, fdS (fun b => coS A b 0 0) (A 0).toNat 0 0, 0, y, z] [] H' := by
  have a0 := ok.1.1
  intro n
  induction n using Nat.strongRecOn with
  | _ n ih =>
    intro b H b0 b1 sc h
    have f91 : H 591 = A := (sc.1 591 (by decide) (by decide)).trans e91
    have e4 : H 591 0 = A 0 := by rw [f91]
    by_cases c : b < A 0
    · have c' : ¬ A 0 ≤ b := by omega
      have z1 : zw (b + 1) = b + 1 := zw_lit (by omega) (by omega)
      have tb := tlZ_bd ok.1 ok.2.2.2 b
      have x3 : H 603 b = (tlZ A).2.2.1 b := by rw [sc.1 603 (by decide) (by decide)]; exact e03 b b0 (by omega)
      have x4 : H 604 b = (tlZ A).2.2.2 b := by rw [sc.1 604 (by decide) (by decide)]; exact e04 b b0 (by omega)
      have ev : ofV A b ((tlZ A).2.2.1 b) ((tlZ A).2.2.2 b) = coS A b 0 0 := by
        have e : ofV A b ((tlZ A).2.2.1 b + 0) ((tlZ A).2.2.2 b + 0) = coS A b 0 0 := rfl
        rw [Int.add_zero, Int.add_zero] at e
        exact e
      have cb := coS_in ok.1 ok.2.2.2 (b := b) (x := 0) (y := 0) ⟨b0, c⟩ (by decide) (by decide)
      have bd := fdS_bd (f := fun b => coS A b 0 0) (m := 1000000) b.toNat 0 0 (fun x x0 x1 => coS_in ok.1 ok.2.2.2 ⟨x0, by omega⟩ (by decide) (by decide))
      have zs : zw (fdS (fun b => coS A b 0 0) b.toNat 0 0 + coS A b 0 0) = fdS (fun b => coS A b 0 0) (b + 1).toNat 0 0 := by
        rw [show (b + 1).toNat = b.toNat + 1 by omega, fdS_end, show (0 : Int) + ((b.toNat : Nat) : Int) = b by omega]
        exact zw_lit (by omega) (by omega)
      have h := xw_top (hd := [11, 61, 79, 105, 115, 185, 223, 249, 325]) 26 xD6_ok xc_X12_laySettled xa_X12_laySettled (t := 79) rfl h
      simp (maxDischargeDepth := 12) -implicitDefEqProofs [vb_X12_laySettled_0, vb_X12_laySettled_11, vb_X12_laySettled_35, vb_X12_laySettled_55, vb_X12_laySettled_61, vb_X12_laySettled_75, vb_X12_laySettled_79, vb_X12_laySettled_103, vb_X12_laySettled_105, vb_X12_laySettled_115, vb_X12_laySettled_157, vb_X12_laySettled_158, vb_X12_laySettled_165, vb_X12_laySettled_171, vb_X12_laySettled_185, vb_X12_laySettled_214, vb_X12_laySettled_223, vb_X12_laySettled_249, vb_X12_laySettled_268, vb_X12_laySettled_301, vb_X12_laySettled_317, vb_X12_laySettled_325, vb_X12_laySettled_354, vb_X12_laySettled_357, xI_0, xI_1, xI_3, xI_6, xI_7, xI_8, xI_14, xI_16, xI_33, xI_36, xI_37, xI_38, xI_39, xI_43, xI_44, xI_46, xI_49, xI_50, xI_51, xI_52, xI_57, xI_58, xI_60, xI_61, xI_62, xw_X12_laySettled_0, xw_X12_laySettled_11, xw_X12_laySettled_35, xw_X12_laySettled_55, xw_X12_laySettled_61, xw_X12_laySettled_75, xw_X12_laySettled_79, xw_X12_laySettled_103, xw_X12_laySettled_105, xw_X12_laySettled_115, xw_X12_laySettled_157, xw_X12_laySettled_158, xw_X12_laySettled_165, xw_X12_laySettled_171, xw_X12_laySettled_185, xw_X12_laySettled_214, xw_X12_laySettled_223, xw_X12_laySettled_249, xw_X12_laySettled_268, xw_X12_laySettled_301, xw_X12_laySettled_317, xw_X12_laySettled_325, xw_X12_laySettled_354, xw_X12_laySettled_357, zw_lit, xB_c, xB_s, xB_n, i1_c, j2_c, k1_c, jJ_e, xlg, xls, xla, xpd, ppush, zw_m1, zw_m2, zw_m3, gf_12_0, gf_12_20, gf_12_44, gf_12_45, gf_12_46, gf_12_47, gf_12_48, gf_12_49, pf_12_47, pf_12_48, tg_12_0, tg_12_20, tg_12_44, tg_12_45, tg_12_46, tg_12_47, tg_12_48, tg_12_49, gv_590_0, gv_590_20, gv_590_44, gv_590_45, gv_590_46, gv_590_47, gv_590_48, gv_590_49, xD1, xD2, xD3, xD4, xD5, xD6, xb1_0, e4, c, c'] at h
      obtain ⟨r, H1, ⟨rfl, sc1⟩, h⟩ := xc_use h (sp_X12_offOf b H (by rw [f91]; exact ok) (by rw [f91]; exact ⟨b0, c⟩) (by rw [x3]; omega) (by rw [x4]; omega))
      rw [f91, x3, x4, ev] at h
      simp (maxDischargeDepth := 12) -implicitDefEqProofs [vb_X12_laySettled_0, vb_X12_laySettled_11, vb_X12_laySettled_35, vb_X12_laySettled_55, vb_X12_laySettled_61, vb_X12_laySettled_75, vb_X12_laySettled_79, vb_X12_laySettled_103, vb_X12_laySettled_105, vb_X12_laySettled_115, vb_X12_laySettled_157, vb_X12_laySettled_158, vb_X12_laySettled_165, vb_X12_laySettled_171, vb_X12_laySettled_185, vb_X12_laySettled_214, vb_X12_laySettled_223, vb_X12_laySettled_249, vb_X12_laySettled_268, vb_X12_laySettled_301, vb_X12_laySettled_317, vb_X12_laySettled_325, vb_X12_laySettled_354, vb_X12_laySettled_357, xI_0, xI_1, xI_3, xI_6, xI_7, xI_8, xI_14, xI_16, xI_33, xI_36, xI_37, xI_38, xI_39, xI_43, xI_44, xI_46, xI_49, xI_50, xI_51, xI_52, xI_57, xI_58, xI_60, xI_61, xI_62, xw_X12_laySettled_0, xw_X12_laySettled_11, xw_X12_laySettled_35, xw_X12_laySettled_55, xw_X12_laySettled_61, xw_X12_laySettled_75, xw_X12_laySettled_79, xw_X12_laySettled_103, xw_X12_laySettled_105, xw_X12_laySettled_115, xw_X12_laySettled_157, xw_X12_laySettled_158, xw_X12_laySettled_165, xw_X12_laySettled_171, xw_X12_laySettled_185, xw_X12_laySettled_214, xw_X12_laySettled_223, xw_X12_laySettled_249, xw_X12_laySettled_268, xw_X12_laySettled_301, xw_X12_laySettled_317, xw_X12_laySettled_325, xw_X12_laySettled_354, xw_X12_laySettled_357, zw_lit, xB_c, xB_s, xB_n, i1_c, j2_c, k1_c, jJ_e, xlg, xls, xla, xpd, ppush, zw_m1, zw_m2, zw_m3, gf_12_0, gf_12_20, gf_12_44, gf_12_45, gf_12_46, gf_12_47, gf_12_48, gf_12_49, pf_12_47, pf_12_48, tg_12_0, tg_12_20, tg_12_44, tg_12_45, tg_12_46, tg_12_47, tg_12_48, tg_12_49, gv_590_0, gv_590_20, gv_590_44, gv_590_45, gv_590_46, gv_590_47, gv_590_48, gv_590_49, xD1, xD2, xD3, xD4, xD5, xD6, xb1_0, zs, z1] at h
      obtain ⟨m, hm, h⟩ := h
      obtain ⟨H', j1, j2⟩ := ih m hm (b + 1) H1 (by omega) (by omega) (SCm_trans sc sc1) h
      exact ⟨H', j1, xJ_up j2 (by omega)⟩
    · have c' : A 0 ≤ b := by omega
      have ek : b.toNat = (A 0).toNat := by omega
      have h := xw_top (hd := [11, 61, 79, 105, 115, 185, 223, 249, 325]) 26 xD6_ok xc_X12_laySettled xa_X12_laySettled (t := 79) rfl h
      simp (maxDischargeDepth := 12) -implicitDefEqProofs [vb_X12_laySettled_0, vb_X12_laySettled_11, vb_X12_laySettled_35, vb_X12_laySettled_55, vb_X12_laySettled_61, vb_X12_laySettled_75, vb_X12_laySettled_79, vb_X12_laySettled_103, vb_X12_laySettled_105, vb_X12_laySettled_115, vb_X12_laySettled_157, vb_X12_laySettled_158, vb_X12_laySettled_165, vb_X12_laySettled_171, vb_X12_laySettled_185, vb_X12_laySettled_214, vb_X12_laySettled_223, vb_X12_laySettled_249, vb_X12_laySettled_268, vb_X12_laySettled_301, vb_X12_laySettled_317, vb_X12_laySettled_325, vb_X12_laySettled_354, vb_X12_laySettled_357, xI_0, xI_1, xI_3, xI_6, xI_7, xI_8, xI_14, xI_16, xI_33, xI_36, xI_37, xI_38, xI_39, xI_43, xI_44, xI_46, xI_49, xI_50, xI_51, xI_52, xI_57, xI_58, xI_60, xI_61, xI_62, xw_X12_laySettled_0, xw_X12_laySettled_11, xw_X12_laySettled_35, xw_X12_laySettled_55, xw_X12_laySettled_61, xw_X12_laySettled_75, xw_X12_laySettled_79, xw_X12_laySettled_103, xw_X12_laySettled_105, xw_X12_laySettled_115, xw_X12_laySettled_157, xw_X12_laySettled_158, xw_X12_laySettled_165, xw_X12_laySettled_171, xw_X12_laySettled_185, xw_X12_laySettled_214, xw_X12_laySettled_223, xw_X12_laySettled_249, xw_X12_laySettled_268, xw_X12_laySettled_301, xw_X12_laySettled_317, xw_X12_laySettled_325, xw_X12_laySettled_354, xw_X12_laySettled_357, zw_lit, xB_c, xB_s, xB_n, i1_c, j2_c, k1_c, jJ_e, xlg, xls, xla, xpd, ppush, zw_m1, zw_m2, zw_m3, gf_12_0, gf_12_20, gf_12_44, gf_12_45, gf_12_46, gf_12_47, gf_12_48, gf_12_49, pf_12_47, pf_12_48, tg_12_0, tg_12_20, tg_12_44, tg_12_45, tg_12_46, tg_12_47, tg_12_48, tg_12_49, gv_590_0, gv_590_20, gv_590_44, gv_590_45, gv_590_46, gv_590_47, gv_590_48, gv_590_49, xD1, xD2, xD3, xD4, xD5, xD6, xb1_0, e4, c, c'] at h
      rw [ek] at h
      exact ⟨H, sc, h⟩
set_option maxRecDepth 100000 in
theorem lp_sn105 (A : Int → Int) (ok : OKR A) (h5 : dN A ≤ 5) (Hl : PH) (e91 : Hl 591 = A) (e47 : Hl 590 47 = (dN A : Int)) (e17 : ∀ i, 0 ≤ i → i < (dN A : Int) → Hl 617 i = dL A i) (T : Int) {E : xE} {res : xR} : ∀ (n : Nat), (∀ (i y z : Int) (H : PH), 0 ≤ i → i ≤ (dN A : Int) → SCm [599, 620] [17, 18, 19] Hl H → (∀ u b, 0 ≤ u → u < i → 0 ≤ b → b < 12 → H 620 (12 * u + b) = NV A u b) → RUN E res n kd_X12_laySettled (zget kd_X12_laySettled 105) 105 [590, T, i, y, z] [] H → ∃ (H' : PH) (y' z' : Int), SCm [599, 620] [17, 18, 19] Hl H' ∧ (∀ u b, 0 ≤ u → u < (dN A : Int) → 0 ≤ b → b < 12 → H' 620 (12 * u + b) = NV A u b) ∧ xJ E res n kd_X12_laySettled 185 [590, T, 0, y', z'] [] (pup (pup H' 590 48 (-1)) 618 0 (-1))) ∧ (∀ (i b z : Int) (H : PH), 0 ≤ i → i < (dN A : Int) → 0 ≤ b → b ≤ 12 → SCm [599, 620] [17, 18, 19] Hl H → (∀ u v, 0 ≤ u → u < i → 0 ≤ v → v < 12 → H 620 (12 * u + v) = NV A u v) → (∀ v, 0 ≤ v → v < b → H 620 (12 * i + v) = NV A i v) → RUN E res n kd_X12_laySettled (zget kd_X12_laySettled 115) 115 [590, T, i, b, z] [] H → ∃ (H' : PH) (y' z' : Int), SCm [599, 620] [17, 18, 19] Hl H' ∧ (∀ u b, 0 ≤ u → u < (dN A : Int) → 0 ≤ b → b < 12 → H' 620 (12 * u + b) = NV A u b) ∧ xJ E res n kd_X12_laySettled 185 [590, T, 0, y', z'] [] (pup (pup H' 590 48 (-1)) 618 0 (-1))) := by
  have a0 := ok.1.1
  have a2 := ok.1.2.2.1
  have os := ok.2.2.1
  obtain ⟨qb1, qb0⟩ := qb_620
  intro n
  induction n using Nat.strongRecOn with
  | _ n ih =>
    constructor
    · intro i y z H i0 i1 sc hN h
      have f47 : H 590 47 = (dN A : Int) := (sc.2 47 (by decide)).trans e47
      by_cases c : i < (dN A : Int)
      · have c' : ¬ (dN A : Int) ≤ i := by omega
        have h := xw_top (hd := [11, 61, 79, 105, 115, 185, 223, 249, 325]) 26 xD6_ok xc_X12_laySettled xa_X12_laySettled (t := 105) rfl h
        simp (maxDischargeDepth := 12) -implicitDefEqProofs [vb_X12_laySettled_0, vb_X12_laySettled_11, vb_X12_laySettled_35, vb_X12_laySettled_55, vb_X12_laySettled_61, vb_X12_laySettled_75, vb_X12_laySettled_79, vb_X12_laySettled_103, vb_X12_laySettled_105, vb_X12_laySettled_115, vb_X12_laySettled_157, vb_X12_laySettled_158, vb_X12_laySettled_165, vb_X12_laySettled_171, vb_X12_laySettled_185, vb_X12_laySettled_214, vb_X12_laySettled_223, vb_X12_laySettled_249, vb_X12_laySettled_268, vb_X12_laySettled_301, vb_X12_laySettled_317, vb_X12_laySettled_325, vb_X12_laySettled_354, vb_X12_laySettled_357, xI_0, xI_1, xI_3, xI_6, xI_7, xI_8, xI_14, xI_16, xI_33, xI_36, xI_37, xI_38, xI_39, xI_43, xI_44, xI_46, xI_49, xI_50, xI_51, xI_52, xI_57, xI_58, xI_60, xI_61, xI_62, xw_X12_laySettled_0, xw_X12_laySettled_11, xw_X12_laySettled_35, xw_X12_laySettled_55, xw_X12_laySettled_61, xw_X12_laySettled_75, xw_X12_laySettled_79, xw_X12_laySettled_103, xw_X12_laySettled_105, xw_X12_laySettled_115, xw_X12_laySettled_157, xw_X12_laySettled_158, xw_X12_laySettled_165, xw_X12_laySettled_171, xw_X12_laySettled_185, xw_X12_laySettled_214, xw_X12_laySettled_223, xw_X12_laySettled_249, xw_X12_laySettled_268, xw_X12_laySettled_301, xw_X12_laySettled_317, xw_X12_laySettled_325, xw_X12_laySettled_354, xw_X12_laySettled_357, zw_lit, xB_c, xB_s, xB_n, i1_c, j2_c, k1_c, jJ_e, xlg, xls, xla, xpd, ppush, zw_m1, zw_m2, zw_m3, gf_12_0, gf_12_20, gf_12_44, gf_12_45, gf_12_46, gf_12_47, gf_12_48, gf_12_49, pf_12_47, pf_12_48, tg_12_0, tg_12_20, tg_12_44, tg_12_45, tg_12_46, tg_12_47, tg_12_48, tg_12_49, gv_590_0, gv_590_20, gv_590_44, gv_590_45, gv_590_46, gv_590_47, gv_590_48, gv_590_49, xD1, xD2, xD3, xD4, xD5, xD6, xb1_0, f47, c, c'] at h
        obtain ⟨m, hm, h⟩ := h
        obtain ⟨H', y', z', j1, j2, j3⟩ := (ih m hm).2 i 0 z H i0 c (by decide) (by decide) sc hN (fun v v0 v1 => by omega) h
        exact ⟨H', y', z', j1, j2, xJ_up j3 (by omega)⟩
      · have c' : (dN A : Int) ≤ i := by omega
        have h := xw_top (hd := [11, 61, 79, 105, 115, 185, 223, 249, 325]) 26 xD6_ok xc_X12_laySettled xa_X12_laySettled (t := 105) rfl h
        simp (maxDischargeDepth := 12) -implicitDefEqProofs [vb_X12_laySettled_0, vb_X12_laySettled_11, vb_X12_laySettled_35, vb_X12_laySettled_55, vb_X12_laySettled_61, vb_X12_laySettled_75, vb_X12_laySettled_79, vb_X12_laySettled_103, vb_X12_laySettled_105, vb_X12_laySettled_115, vb_X12_laySettled_157, vb_X12_laySettled_158, vb_X12_laySettled_165, vb_X12_laySettled_171, vb_X12_laySettled_185, vb_X12_laySettled_214, vb_X12_laySettled_223, vb_X12_laySettled_249, vb_X12_laySettled_268, vb_X12_laySettled_301, vb_X12_laySettled_317, vb_X12_laySettled_325, vb_X12_laySettled_354, vb_X12_laySettled_357, xI_0, xI_1, xI_3, xI_6, xI_7, xI_8, xI_14, xI_16, xI_33, xI_36, xI_37, xI_38, xI_39, xI_43, xI_44, xI_46, xI_49, xI_50, xI_51, xI_52, xI_57, xI_58, xI_60, xI_61, xI_62, xw_X12_laySettled_0, xw_X12_laySettled_11, xw_X12_laySettled_35, xw_X12_laySettled_55, xw_X12_laySettled_61, xw_X12_laySettled_75, xw_X12_laySettled_79, xw_X12_laySettled_103, xw_X12_laySettled_105, xw_X12_laySettled_115, xw_X12_laySettled_157, xw_X12_laySettled_158, xw_X12_laySettled_165, xw_X12_laySettled_171, xw_X12_laySettled_185, xw_X12_laySettled_214, xw_X12_laySettled_223, xw_X12_laySettled_249, xw_X12_laySettled_268, xw_X12_laySettled_301, xw_X12_laySettled_317, xw_X12_laySettled_325, xw_X12_laySettled_354, xw_X12_laySettled_357, zw_lit, xB_c, xB_s, xB_n, i1_c, j2_c, k1_c, jJ_e, xlg, xls, xla, xpd, ppush, zw_m1, zw_m2, zw_m3, gf_12_0, gf_12_20, gf_12_44, gf_12_45, gf_12_46, gf_12_47, gf_12_48, gf_12_49, pf_12_47, pf_12_48, tg_12_0, tg_12_20, tg_12_44, tg_12_45, tg_12_46, tg_12_47, tg_12_48, tg_12_49, gv_590_0, gv_590_20, gv_590_44, gv_590_45, gv_590_46, gv_590_47, gv_590_48, gv_590_49, xD1, xD2, xD3, xD4, xD5, xD6, xb1_0, f47, c, c'] at h
        exact ⟨H, y, z, sc, fun u b u0 u1 b0 b1 => hN u b u0 (by omega) b0 b1, h⟩
    · intro i b z H i0 i1 b0 b1 sc hN hM h
      have f91 : H 591 = A := (sc.1 591 (by decide) (by decide)).trans e91
      have z12 : zw (12 * i) = 12 * i := zw_lit (by omega) (by omega)
      have zb : zw (12 * i + b) = 12 * i + b := zw_lit (by omega) (by omega)
      have z1 : zw (b + 1) = b + 1 := zw_lit (by omega) (by omega)
      have zi : zw (i + 1) = i + 1 := zw_lit (by omega) (by omega)
      have za : zw (A 0 - 1) = A 0 - 1 := zw_lit (by omega) (by omega)
      have e0 : H 591 0 = A 0 := by rw [f91]
      by_cases c : b < 12
      · have c' : ¬ 12 ≤ b := by omega
        have step : ∀ (H1 : PH), SCm [599] [17, 18, 19] H H1 → xJ E res n kd_X12_laySettled 115 [590, T, i, b + 1, z] [] (pup H1 620 (12 * i + b) (NV A i b)) → ∃ (H' : PH) (y' z' : Int), SCm [599, 620] [17, 18, 19] Hl H' ∧ (∀ u b, 0 ≤ u → u < (dN A : Int) → 0 ≤ b → b < 12 → H' 620 (12 * u + b) = NV A u b) ∧ xJ E res n kd_X12_laySettled 185 [590, T, 0, y', z'] [] (pup (pup H' 590 48 (-1)) 618 0 (-1)) := by
          rintro H1 s1 ⟨m, hm, g⟩
          have g20 : H1 620 = H 620 := s1.1 620 (by decide) (by decide)
          obtain ⟨H', y', z', j1, j2, j3⟩ := (ih m hm).2 i (b + 1) z _ i0 i1 (by omega) (by omega) (SCm_trans sc (SCm_trans (SCm_sub s1 (by decide) (by decide)) (SCm_cell (by decide) (by decide)))) (fun u v u0 u1 v0 v1 => by rw [xp_at, if_neg (by omega), g20]; exact hN u v u0 u1 v0 v1) (fun v v0 v1 => by
            rw [xp_at]
            by_cases e : v = b
            · rw [if_pos (by omega), e]
            · rw [if_neg (by omega), g20]
              exact hM v v0 (by omega)) g
          exact ⟨H', y', z', j1, j2, xJ_up j3 (by omega)⟩
        by_cases w : b < A 0
        · have w1 : b ≤ A 0 - 1 := by omega
          have w2 : ¬ A 0 ≤ b := by omega
          have w3 : ¬ A 0 - 1 < b := by omega
          have d := (dN_in ok.1 h5).1 i i0 i1
          have ed : H 617 i = dL A i := by rw [sc.1 617 (by decide) (by decide)]; exact e17 i i0 i1
          have h := xw_top (hd := [11, 61, 79, 105, 115, 185, 223, 249, 325]) 26 xD6_ok xc_X12_laySettled xa_X12_laySettled (t := 115) rfl h
          simp (maxDischargeDepth := 12) -implicitDefEqProofs [vb_X12_laySettled_0, vb_X12_laySettled_11, vb_X12_laySettled_35, vb_X12_laySettled_55, vb_X12_laySettled_61, vb_X12_laySettled_75, vb_X12_laySettled_79, vb_X12_laySettled_103, vb_X12_laySettled_105, vb_X12_laySettled_115, vb_X12_laySettled_157, vb_X12_laySettled_158, vb_X12_laySettled_165, vb_X12_laySettled_171, vb_X12_laySettled_185, vb_X12_laySettled_214, vb_X12_laySettled_223, vb_X12_laySettled_249, vb_X12_laySettled_268, vb_X12_laySettled_301, vb_X12_laySettled_317, vb_X12_laySettled_325, vb_X12_laySettled_354, vb_X12_laySettled_357, xI_0, xI_1, xI_3, xI_6, xI_7, xI_8, xI_14, xI_16, xI_33, xI_36, xI_37, xI_38, xI_39, xI_43, xI_44, xI_46, xI_49, xI_50, xI_51, xI_52, xI_57, xI_58, xI_60, xI_61, xI_62, xw_X12_laySettled_0, xw_X12_laySettled_11, xw_X12_laySettled_35, xw_X12_laySettled_55, xw_X12_laySettled_61, xw_X12_laySettled_75, xw_X12_laySettled_79, xw_X12_laySettled_103, xw_X12_laySettled_105, xw_X12_laySettled_115, xw_X12_laySettled_157, xw_X12_laySettled_158, xw_X12_laySettled_165, xw_X12_laySettled_171, xw_X12_laySettled_185, xw_X12_laySettled_214, xw_X12_laySettled_223, xw_X12_laySettled_249, xw_X12_laySettled_268, xw_X12_laySettled_301, xw_X12_laySettled_317, xw_X12_laySettled_325, xw_X12_laySettled_354, xw_X12_laySettled_357, zw_lit, xB_c, xB_s, xB_n, i1_c, j2_c, k1_c, jJ_e, xlg, xls, xla, xpd, ppush, zw_m1, zw_m2, zw_m3, gf_12_0, gf_12_20, gf_12_44, gf_12_45, gf_12_46, gf_12_47, gf_12_48, gf_12_49, pf_12_47, pf_12_48, tg_12_0, tg_12_20, tg_12_44, tg_12_45, tg_12_46, tg_12_47, tg_12_48, tg_12_49, gv_590_0, gv_590_20, gv_590_44, gv_590_45, gv_590_46, gv_590_47, gv_590_48, gv_590_49, xD1, xD2, xD3, xD4, xD5, xD6, xb1_0, c, c', z12, zb, e0, za, b0, w, w1, w2, w3, ed] at h
          obtain ⟨r, H1, ⟨rfl, s1⟩, h⟩ := xc_use h (sp_X12_isNear (dL A i) b H (by rw [f91]; exact ok.1) ⟨d.1, by omega⟩ (by rw [f91]; exact ⟨b0, w⟩))
          rw [f91] at h
          by_cases nr : nrB A (dL A i) b = true
          · rw [if_pos nr] at h
            simp (maxDischargeDepth := 12) -implicitDefEqProofs [vb_X12_laySettled_0, vb_X12_laySettled_11, vb_X12_laySettled_35, vb_X12_laySettled_55, vb_X12_laySettled_61, vb_X12_laySettled_75, vb_X12_laySettled_79, vb_X12_laySettled_103, vb_X12_laySettled_105, vb_X12_laySettled_115, vb_X12_laySettled_157, vb_X12_laySettled_158, vb_X12_laySettled_165, vb_X12_laySettled_171, vb_X12_laySettled_185, vb_X12_laySettled_214, vb_X12_laySettled_223, vb_X12_laySettled_249, vb_X12_laySettled_268, vb_X12_laySettled_301, vb_X12_laySettled_317, vb_X12_laySettled_325, vb_X12_laySettled_354, vb_X12_laySettled_357, xI_0, xI_1, xI_3, xI_6, xI_7, xI_8, xI_14, xI_16, xI_33, xI_36, xI_37, xI_38, xI_39, xI_43, xI_44, xI_46, xI_49, xI_50, xI_51, xI_52, xI_57, xI_58, xI_60, xI_61, xI_62, xw_X12_laySettled_0, xw_X12_laySettled_11, xw_X12_laySettled_35, xw_X12_laySettled_55, xw_X12_laySettled_61, xw_X12_laySettled_75, xw_X12_laySettled_79, xw_X12_laySettled_103, xw_X12_laySettled_105, xw_X12_laySettled_115, xw_X12_laySettled_157, xw_X12_laySettled_158, xw_X12_laySettled_165, xw_X12_laySettled_171, xw_X12_laySettled_185, xw_X12_laySettled_214, xw_X12_laySettled_223, xw_X12_laySettled_249, xw_X12_laySettled_268, xw_X12_laySettled_301, xw_X12_laySettled_317, xw_X12_laySettled_325, xw_X12_laySettled_354, xw_X12_laySettled_357, zw_lit, xB_c, xB_s, xB_n, i1_c, j2_c, k1_c, jJ_e, xlg, xls, xla, xpd, ppush, zw_m1, zw_m2, zw_m3, gf_12_0, gf_12_20, gf_12_44, gf_12_45, gf_12_46, gf_12_47, gf_12_48, gf_12_49, pf_12_47, pf_12_48, tg_12_0, tg_12_20, tg_12_44, tg_12_45, tg_12_46, tg_12_47, tg_12_48, tg_12_49, gv_590_0, gv_590_20, gv_590_44, gv_590_45, gv_590_46, gv_590_47, gv_590_48, gv_590_49, xD1, xD2, xD3, xD4, xD5, xD6, xb1_0, z1, qb1] at h
            have nv : NV A i b = 1 := if_pos ⟨w, nr⟩
            exact step H1 s1 (by rw [nv]; exact h)
          · rw [if_neg nr] at h
            simp (maxDischargeDepth := 12) -implicitDefEqProofs [vb_X12_laySettled_0, vb_X12_laySettled_11, vb_X12_laySettled_35, vb_X12_laySettled_55, vb_X12_laySettled_61, vb_X12_laySettled_75, vb_X12_laySettled_79, vb_X12_laySettled_103, vb_X12_laySettled_105, vb_X12_laySettled_115, vb_X12_laySettled_157, vb_X12_laySettled_158, vb_X12_laySettled_165, vb_X12_laySettled_171, vb_X12_laySettled_185, vb_X12_laySettled_214, vb_X12_laySettled_223, vb_X12_laySettled_249, vb_X12_laySettled_268, vb_X12_laySettled_301, vb_X12_laySettled_317, vb_X12_laySettled_325, vb_X12_laySettled_354, vb_X12_laySettled_357, xI_0, xI_1, xI_3, xI_6, xI_7, xI_8, xI_14, xI_16, xI_33, xI_36, xI_37, xI_38, xI_39, xI_43, xI_44, xI_46, xI_49, xI_50, xI_51, xI_52, xI_57, xI_58, xI_60, xI_61, xI_62, xw_X12_laySettled_0, xw_X12_laySettled_11, xw_X12_laySettled_35, xw_X12_laySettled_55, xw_X12_laySettled_61, xw_X12_laySettled_75, xw_X12_laySettled_79, xw_X12_laySettled_103, xw_X12_laySettled_105, xw_X12_laySettled_115, xw_X12_laySettled_157, xw_X12_laySettled_158, xw_X12_laySettled_165, xw_X12_laySettled_171, xw_X12_laySettled_185, xw_X12_laySettled_214, xw_X12_laySettled_223, xw_X12_laySettled_249, xw_X12_laySettled_268, xw_X12_laySettled_301, xw_X12_laySettled_317, xw_X12_laySettled_325, xw_X12_laySettled_354, xw_X12_laySettled_357, zw_lit, xB_c, xB_s, xB_n, i1_c, j2_c, k1_c, jJ_e, xlg, xls, xla, xpd, ppush, zw_m1, zw_m2, zw_m3, gf_12_0, gf_12_20, gf_12_44, gf_12_45, gf_12_46, gf_12_47, gf_12_48, gf_12_49, pf_12_47, pf_12_48, tg_12_0, tg_12_20, tg_12_44, tg_12_45, tg_12_46, tg_12_47, tg_12_48, tg_12_49, gv_590_0, gv_590_20, gv_590_44, gv_590_45, gv_590_46, gv_590_47, gv_590_48, gv_590_49, xD1, xD2, xD3, xD4, xD5, xD6, xb1_0, z1, qb0] at h
            have nv : NV A i b = 0 := if_neg (fun q => nr q.2)
            exact step H1 s1 (by rw [nv]; exact h)
        · have w1 : ¬ b ≤ A 0 - 1 := by omega
          have w2 : A 0 ≤ b := by omega
          have w3 : A 0 - 1 < b := by omega
          have h := xw_top (hd := [11, 61, 79, 105, 115, 185, 223, 249, 325]) 26 xD6_ok xc_X12_laySettled xa_X12_laySettled (t := 115) rfl h
          simp (maxDischargeDepth := 12) -implicitDefEqProofs [vb_X12_laySettled_0, vb_X12_laySettled_11, vb_X12_laySettled_35, vb_X12_laySettled_55, vb_X12_laySettled_61, vb_X12_laySettled_75, vb_X12_laySettled_79, vb_X12_laySettled_103, vb_X12_laySettled_105, vb_X12_laySettled_115, vb_X12_laySettled_157, vb_X12_laySettled_158, vb_X12_laySettled_165, vb_X12_laySettled_171, vb_X12_laySettled_185, vb_X12_laySettled_214, vb_X12_laySettled_223, vb_X12_laySettled_249, vb_X12_laySettled_268, vb_X12_laySettled_301, vb_X12_laySettled_317, vb_X12_laySettled_325, vb_X12_laySettled_354, vb_X12_laySettled_357, xI_0, xI_1, xI_3, xI_6, xI_7, xI_8, xI_14, xI_16, xI_33, xI_36, xI_37, xI_38, xI_39, xI_43, xI_44, xI_46, xI_49, xI_50, xI_51, xI_52, xI_57, xI_58, xI_60, xI_61, xI_62, xw_X12_laySettled_0, xw_X12_laySettled_11, xw_X12_laySettled_35, xw_X12_laySettled_55, xw_X12_laySettled_61, xw_X12_laySettled_75, xw_X12_laySettled_79, xw_X12_laySettled_103, xw_X12_laySettled_105, xw_X12_laySettled_115, xw_X12_laySettled_157, xw_X12_laySettled_158, xw_X12_laySettled_165, xw_X12_laySettled_171, xw_X12_laySettled_185, xw_X12_laySettled_214, xw_X12_laySettled_223, xw_X12_laySettled_249, xw_X12_laySettled_268, xw_X12_laySettled_301, xw_X12_laySettled_317, xw_X12_laySettled_325, xw_X12_laySettled_354, xw_X12_laySettled_357, zw_lit, xB_c, xB_s, xB_n, i1_c, j2_c, k1_c, jJ_e, xlg, xls, xla, xpd, ppush, zw_m1, zw_m2, zw_m3, gf_12_0, gf_12_20, gf_12_44, gf_12_45, gf_12_46, gf_12_47, gf_12_48, gf_12_49, pf_12_47, pf_12_48, tg_12_0, tg_12_20, tg_12_44, tg_12_45, tg_12_46, tg_12_47, tg_12_48, tg_12_49, gv_590_0, gv_590_20, gv_590_44, gv_590_45, gv_590_46, gv_590_47, gv_590_48, gv_590_49, xD1, xD2, xD3, xD4, xD5, xD6, xb1_0, c, c', z12, zb, e0, za, b0, w, w1, w2, w3, z1, qb0] at h
          have nv : NV A i b = 0 := if_neg (fun q => w q.1)
          exact step H SCm_refl (by rw [nv]; exact h)
      · have c' : 12 ≤ b := by omega
        have h := xw_top (hd := [11, 61, 79, 105, 115, 185, 223, 249, 325]) 26 xD6_ok xc_X12_laySettled xa_X12_laySettled (t := 115) rfl h
        simp (maxDischargeDepth := 12) -implicitDefEqProofs [vb_X12_laySettled_0, vb_X12_laySettled_11, vb_X12_laySettled_35, vb_X12_laySettled_55, vb_X12_laySettled_61, vb_X12_laySettled_75, vb_X12_laySettled_79, vb_X12_laySettled_103, vb_X12_laySettled_105, vb_X12_laySettled_115, vb_X12_laySettled_157, vb_X12_laySettled_158, vb_X12_laySettled_165, vb_X12_laySettled_171, vb_X12_laySettled_185, vb_X12_laySettled_214, vb_X12_laySettled_223, vb_X12_laySettled_249, vb_X12_laySettled_268, vb_X12_laySettled_301, vb_X12_laySettled_317, vb_X12_laySettled_325, vb_X12_laySettled_354, vb_X12_laySettled_357, xI_0, xI_1, xI_3, xI_6, xI_7, xI_8, xI_14, xI_16, xI_33, xI_36, xI_37, xI_38, xI_39, xI_43, xI_44, xI_46, xI_49, xI_50, xI_51, xI_52, xI_57, xI_58, xI_60, xI_61, xI_62, xw_X12_laySettled_0, xw_X12_laySettled_11, xw_X12_laySettled_35, xw_X12_laySettled_55, xw_X12_laySettled_61, xw_X12_laySettled_75, xw_X12_laySettled_79, xw_X12_laySettled_103, xw_X12_laySettled_105, xw_X12_laySettled_115, xw_X12_laySettled_157, xw_X12_laySettled_158, xw_X12_laySettled_165, xw_X12_laySettled_171, xw_X12_laySettled_185, xw_X12_laySettled_214, xw_X12_laySettled_223, xw_X12_laySettled_249, xw_X12_laySettled_268, xw_X12_laySettled_301, xw_X12_laySettled_317, xw_X12_laySettled_325, xw_X12_laySettled_354, xw_X12_laySettled_357, zw_lit, xB_c, xB_s, xB_n, i1_c, j2_c, k1_c, jJ_e, xlg, xls, xla, xpd, ppush, zw_m1, zw_m2, zw_m3, gf_12_0, gf_12_20, gf_12_44, gf_12_45, gf_12_46, gf_12_47, gf_12_48, gf_12_49, pf_12_47, pf_12_48, tg_12_0, tg_12_20, tg_12_44, tg_12_45, tg_12_46, tg_12_47, tg_12_48, tg_12_49, gv_590_0, gv_590_20, gv_590_44, gv_590_45, gv_590_46, gv_590_47, gv_590_48, gv_590_49, xD1, xD2, xD3, xD4, xD5, xD6, xb1_0, c, c', zi] at h
        obtain ⟨m, hm, h⟩ := h
        obtain ⟨H', y', z', j1, j2, j3⟩ := (ih m hm).1 (i + 1) b z H (by omega) (by omega) sc (fun u v u0 u1 v0 v1 => by
          by_cases e : u = i
          · rw [e]
            exact hM v v0 (by omega)
          · exact hN u v u0 (by omega) v0 v1) h
        exact ⟨H', y', z', j1, j2, xJ_up j3 (by omega)⟩
theorem lp_sf223 (A : Int → Int) (H : PH) (fx : StX A H) (h12 : A 0 ≤ 12) (h5 : dN A ≤ 5) (j T z : Int) (hj : 0 ≤ j ∧ j < (dN A : Int)) {E : xE} {res : xR} : ∀ (n : Nat) (p : Int), 0 ≤ p → p ≤ 12 → RUN E res n kd_X12_laySettled (zget kd_X12_laySettled 223) 223 [590, T, j, p, z] [] H → ∃ p', p ≤ p' ∧ p' ≤ 12 ∧ (∀ q, p ≤ q → q < p' → ¬ nrP A j q) ∧ (p' < 12 → nrP A j p') ∧ xJ E res n kd_X12_laySettled 249 [590, T, j, p', z] [] H := by
  intro n
  induction n using Nat.strongRecOn with
  | _ n ih =>
    intro p p0 p1 h
    by_cases c : p < 12
    · have c' : ¬ 12 ≤ p := by omega
      have z12 : zw (12 * j) = 12 * j := zw_lit (by omega) (by omega)
      have zb : zw (12 * j + p) = 12 * j + p := zw_lit (by omega) (by omega)
      have z1 : zw (p + 1) = p + 1 := zw_lit (by omega) (by omega)
      have ev := fx.2.2.2 j p hj.1 hj.2 p0 c
      by_cases w : p < A 0 ∧ nrB A (dL A j) p = true
      · have nv : NV A j p = 1 := if_pos w
        rw [nv] at ev
        have h := xw_top (hd := [11, 61, 79, 105, 115, 185, 223, 249, 325]) 26 xD6_ok xc_X12_laySettled xa_X12_laySettled (t := 223) rfl h
        simp (maxDischargeDepth := 12) -implicitDefEqProofs [vb_X12_laySettled_0, vb_X12_laySettled_11, vb_X12_laySettled_35, vb_X12_laySettled_55, vb_X12_laySettled_61, vb_X12_laySettled_75, vb_X12_laySettled_79, vb_X12_laySettled_103, vb_X12_laySettled_105, vb_X12_laySettled_115, vb_X12_laySettled_157, vb_X12_laySettled_158, vb_X12_laySettled_165, vb_X12_laySettled_171, vb_X12_laySettled_185, vb_X12_laySettled_214, vb_X12_laySettled_223, vb_X12_laySettled_249, vb_X12_laySettled_268, vb_X12_laySettled_301, vb_X12_laySettled_317, vb_X12_laySettled_325, vb_X12_laySettled_354, vb_X12_laySettled_357, xI_0, xI_1, xI_3, xI_6, xI_7, xI_8, xI_14, xI_16, xI_33, xI_36, xI_37, xI_38, xI_39, xI_43, xI_44, xI_46, xI_49, xI_50, xI_51, xI_52, xI_57, xI_58, xI_60, xI_61, xI_62, xw_X12_laySettled_0, xw_X12_laySettled_11, xw_X12_laySettled_35, xw_X12_laySettled_55, xw_X12_laySettled_61, xw_X12_laySettled_75, xw_X12_laySettled_79, xw_X12_laySettled_103, xw_X12_laySettled_105, xw_X12_laySettled_115, xw_X12_laySettled_157, xw_X12_laySettled_158, xw_X12_laySettled_165, xw_X12_laySettled_171, xw_X12_laySettled_185, xw_X12_laySettled_214, xw_X12_laySettled_223, xw_X12_laySettled_249, xw_X12_laySettled_268, xw_X12_laySettled_301, xw_X12_laySettled_317, xw_X12_laySettled_325, xw_X12_laySettled_354, xw_X12_laySettled_357, zw_lit, xB_c, xB_s, xB_n, i1_c, j2_c, k1_c, jJ_e, xlg, xls, xla, xpd, ppush, zw_m1, zw_m2, zw_m3, gf_12_0, gf_12_20, gf_12_44, gf_12_45, gf_12_46, gf_12_47, gf_12_48, gf_12_49, pf_12_47, pf_12_48, tg_12_0, tg_12_20, tg_12_44, tg_12_45, tg_12_46, tg_12_47, tg_12_48, tg_12_49, gv_590_0, gv_590_20, gv_590_44, gv_590_45, gv_590_46, gv_590_47, gv_590_48, gv_590_49, xD1, xD2, xD3, xD4, xD5, xD6, xb1_0, c, c', z12, zb, ev] at h
        exact ⟨p, Int.le_refl _, p1, fun q q0 q1 => by omega, fun _ => ⟨⟨p0, w.1⟩, w.2⟩, h⟩
      · have nv : NV A j p = 0 := if_neg w
        rw [nv] at ev
        have h := xw_top (hd := [11, 61, 79, 105, 115, 185, 223, 249, 325]) 26 xD6_ok xc_X12_laySettled xa_X12_laySettled (t := 223) rfl h
        simp (maxDischargeDepth := 12) -implicitDefEqProofs [vb_X12_laySettled_0, vb_X12_laySettled_11, vb_X12_laySettled_35, vb_X12_laySettled_55, vb_X12_laySettled_61, vb_X12_laySettled_75, vb_X12_laySettled_79, vb_X12_laySettled_103, vb_X12_laySettled_105, vb_X12_laySettled_115, vb_X12_laySettled_157, vb_X12_laySettled_158, vb_X12_laySettled_165, vb_X12_laySettled_171, vb_X12_laySettled_185, vb_X12_laySettled_214, vb_X12_laySettled_223, vb_X12_laySettled_249, vb_X12_laySettled_268, vb_X12_laySettled_301, vb_X12_laySettled_317, vb_X12_laySettled_325, vb_X12_laySettled_354, vb_X12_laySettled_357, xI_0, xI_1, xI_3, xI_6, xI_7, xI_8, xI_14, xI_16, xI_33, xI_36, xI_37, xI_38, xI_39, xI_43, xI_44, xI_46, xI_49, xI_50, xI_51, xI_52, xI_57, xI_58, xI_60, xI_61, xI_62, xw_X12_laySettled_0, xw_X12_laySettled_11, xw_X12_laySettled_35, xw_X12_laySettled_55, xw_X12_laySettled_61, xw_X12_laySettled_75, xw_X12_laySettled_79, xw_X12_laySettled_103, xw_X12_laySettled_105, xw_X12_laySettled_115, xw_X12_laySettled_157, xw_X12_laySettled_158, xw_X12_laySettled_165, xw_X12_laySettled_171, xw_X12_laySettled_185, xw_X12_laySettled_214, xw_X12_laySettled_223, xw_X12_laySettled_249, xw_X12_laySettled_268, xw_X12_laySettled_301, xw_X12_laySettled_317, xw_X12_laySettled_325, xw_X12_laySettled_354, xw_X12_laySettled_357, zw_lit, xB_c, xB_s, xB_n, i1_c, j2_c, k1_c, jJ_e, xlg, xls, xla, xpd, ppush, zw_m1, zw_m2, zw_m3, gf_12_0, gf_12_20, gf_12_44, gf_12_45, gf_12_46, gf_12_47, gf_12_48, gf_12_49, pf_12_47, pf_12_48, tg_12_0, tg_12_20, tg_12_44, tg_12_45, tg_12_46, tg_12_47, tg_12_48, tg_12_49, gv_590_0, gv_590_20, gv_590_44, gv_590_45, gv_590_46, gv_590_47, gv_590_48, gv_590_49, xD1, xD2, xD3, xD4, xD5, xD6, xb1_0, c, c', z12, zb, ev, z1] at h
        obtain ⟨m, hm, h⟩ := h
        obtain ⟨p', k1, k2, k3, k4, k5⟩ := ih m hm (p + 1) (by omega) (by omega) h
        refine ⟨p', by omega, k2, fun q q0 q1 => ?_, k4, xJ_up k5 (by omega)⟩
        by_cases e : q = p
        · rw [e]
          exact fun t => w ⟨t.1.2, t.2⟩
        · exact k3 q (by omega) q1
    · have c' : 12 ≤ p := by omega
      have h := xw_top (hd := [11, 61, 79, 105, 115, 185, 223, 249, 325]) 26 xD6_ok xc_X12_laySettled xa_X12_laySettled (t := 223) rfl h
      simp (maxDischargeDepth := 12) -implicitDefEqProofs [vb_X12_laySettled_0, vb_X12_laySettled_11, vb_X12_laySettled_35, vb_X12_laySettled_55, vb_X12_laySettled_61, vb_X12_laySettled_75, vb_X12_laySettled_79, vb_X12_laySettled_103, vb_X12_laySettled_105, vb_X12_laySettled_115, vb_X12_laySettled_157, vb_X12_laySettled_158, vb_X12_laySettled_165, vb_X12_laySettled_171, vb_X12_laySettled_185, vb_X12_laySettled_214, vb_X12_laySettled_223, vb_X12_laySettled_249, vb_X12_laySettled_268, vb_X12_laySettled_301, vb_X12_laySettled_317, vb_X12_laySettled_325, vb_X12_laySettled_354, vb_X12_laySettled_357, xI_0, xI_1, xI_3, xI_6, xI_7, xI_8, xI_14, xI_16, xI_33, xI_36, xI_37, xI_38, xI_39, xI_43, xI_44, xI_46, xI_49, xI_50, xI_51, xI_52, xI_57, xI_58, xI_60, xI_61, xI_62, xw_X12_laySettled_0, xw_X12_laySettled_11, xw_X12_laySettled_35, xw_X12_laySettled_55, xw_X12_laySettled_61, xw_X12_laySettled_75, xw_X12_laySettled_79, xw_X12_laySettled_103, xw_X12_laySettled_105, xw_X12_laySettled_115, xw_X12_laySettled_157, xw_X12_laySettled_158, xw_X12_laySettled_165, xw_X12_laySettled_171, xw_X12_laySettled_185, xw_X12_laySettled_214, xw_X12_laySettled_223, xw_X12_laySettled_249, xw_X12_laySettled_268, xw_X12_laySettled_301, xw_X12_laySettled_317, xw_X12_laySettled_325, xw_X12_laySettled_354, xw_X12_laySettled_357, zw_lit, xB_c, xB_s, xB_n, i1_c, j2_c, k1_c, jJ_e, xlg, xls, xla, xpd, ppush, zw_m1, zw_m2, zw_m3, gf_12_0, gf_12_20, gf_12_44, gf_12_45, gf_12_46, gf_12_47, gf_12_48, gf_12_49, pf_12_47, pf_12_48, tg_12_0, tg_12_20, tg_12_44, tg_12_45, tg_12_46, tg_12_47, tg_12_48, tg_12_49, gv_590_0, gv_590_20, gv_590_44, gv_590_45, gv_590_46, gv_590_47, gv_590_48, gv_590_49, xD1, xD2, xD3, xD4, xD5, xD6, xb1_0, c, c'] at h
      exact ⟨p, Int.le_refl _, p1, fun q q0 q1 => by omega, fun q => absurd q c, h⟩
theorem lp_sc325 (d j T p : Int) (Hl : PH) (e47 : Hl 590 47 = d) (hd : 0 ≤ d ∧ d ≤ 60) {E : xE} {res : xR} : ∀ (n : Nat) (i : Int) (H : PH), 0 ≤ i → i ≤ d → SCm [619] [] Hl H → (∀ l, 0 ≤ l → l < i → H 619 l = Hl 618 l) → RUN E res n kd_X12_laySettled (zget kd_X12_laySettled 325) 325 [590, T, j, p, i] [] H → ∃ (H' : PH) (i' : Int), SCm [619] [] Hl H' ∧ (∀ l, 0 ≤ l → l < d → H' 619 l = Hl 618 l) ∧ xJ E res n kd_X12_laySettled 185 [590, T, j, p, i'] [] H' := by
  intro n
  induction n using Nat.strongRecOn with
  | _ n ih =>
    intro i H i0 i1 sc hL h
    have f47 : H 590 47 = d := (sc.2 47 (by decide)).trans e47
    by_cases c : i < d
    · have c' : ¬ d ≤ i := by omega
      have z1 : zw (i + 1) = i + 1 := zw_lit (by omega) (by omega)
      have e18 : H 618 = Hl 618 := sc.1 618 (by decide) (by decide)
      have h := xw_top (hd := [11, 61, 79, 105, 115, 185, 223, 249, 325]) 26 xD6_ok xc_X12_laySettled xa_X12_laySettled (t := 325) rfl h
      simp (maxDischargeDepth := 12) -implicitDefEqProofs [vb_X12_laySettled_0, vb_X12_laySettled_11, vb_X12_laySettled_35, vb_X12_laySettled_55, vb_X12_laySettled_61, vb_X12_laySettled_75, vb_X12_laySettled_79, vb_X12_laySettled_103, vb_X12_laySettled_105, vb_X12_laySettled_115, vb_X12_laySettled_157, vb_X12_laySettled_158, vb_X12_laySettled_165, vb_X12_laySettled_171, vb_X12_laySettled_185, vb_X12_laySettled_214, vb_X12_laySettled_223, vb_X12_laySettled_249, vb_X12_laySettled_268, vb_X12_laySettled_301, vb_X12_laySettled_317, vb_X12_laySettled_325, vb_X12_laySettled_354, vb_X12_laySettled_357, xI_0, xI_1, xI_3, xI_6, xI_7, xI_8, xI_14, xI_16, xI_33, xI_36, xI_37, xI_38, xI_39, xI_43, xI_44, xI_46, xI_49, xI_50, xI_51, xI_52, xI_57, xI_58, xI_60, xI_61, xI_62, xw_X12_laySettled_0, xw_X12_laySettled_11, xw_X12_laySettled_35, xw_X12_laySettled_55, xw_X12_laySettled_61, xw_X12_laySettled_75, xw_X12_laySettled_79, xw_X12_laySettled_103, xw_X12_laySettled_105, xw_X12_laySettled_115, xw_X12_laySettled_157, xw_X12_laySettled_158, xw_X12_laySettled_165, xw_X12_laySettled_171, xw_X12_laySettled_185, xw_X12_laySettled_214, xw_X12_laySettled_223, xw_X12_laySettled_249, xw_X12_laySettled_268, xw_X12_laySettled_301, xw_X12_laySettled_317, xw_X12_laySettled_325, xw_X12_laySettled_354, xw_X12_laySettled_357, zw_lit, xB_c, xB_s, xB_n, i1_c, j2_c, k1_c, jJ_e, xlg, xls, xla, xpd, ppush, zw_m1, zw_m2, zw_m3, gf_12_0, gf_12_20, gf_12_44, gf_12_45, gf_12_46, gf_12_47, gf_12_48, gf_12_49, pf_12_47, pf_12_48, tg_12_0, tg_12_20, tg_12_44, tg_12_45, tg_12_46, tg_12_47, tg_12_48, tg_12_49, gv_590_0, gv_590_20, gv_590_44, gv_590_45, gv_590_46, gv_590_47, gv_590_48, gv_590_49, xD1, xD2, xD3, xD4, xD5, xD6, xb1_0, f47, c, c', z1, e18] at h
      obtain ⟨m, hm, h⟩ := h
      obtain ⟨H', i', k1, k2, k3⟩ := ih m hm (i + 1) _ (by omega) (by omega) (SCm_trans sc (SCm_cell (by decide) (by decide))) (fun l l0 l1 => by
        rw [xp_at]
        by_cases e : l = i
        · rw [if_pos e, e]
        · rw [if_neg e]
          exact hL l l0 (by omega)) h
      exact ⟨H', i', k1, k2, xJ_up k3 (by omega)⟩
    · have c' : d ≤ i := by omega
      have h := xw_top (hd := [11, 61, 79, 105, 115, 185, 223, 249, 325]) 26 xD6_ok xc_X12_laySettled xa_X12_laySettled (t := 325) rfl h
      simp (maxDischargeDepth := 12) -implicitDefEqProofs [vb_X12_laySettled_0, vb_X12_laySettled_11, vb_X12_laySettled_35, vb_X12_laySettled_55, vb_X12_laySettled_61, vb_X12_laySettled_75, vb_X12_laySettled_79, vb_X12_laySettled_103, vb_X12_laySettled_105, vb_X12_laySettled_115, vb_X12_laySettled_157, vb_X12_laySettled_158, vb_X12_laySettled_165, vb_X12_laySettled_171, vb_X12_laySettled_185, vb_X12_laySettled_214, vb_X12_laySettled_223, vb_X12_laySettled_249, vb_X12_laySettled_268, vb_X12_laySettled_301, vb_X12_laySettled_317, vb_X12_laySettled_325, vb_X12_laySettled_354, vb_X12_laySettled_357, xI_0, xI_1, xI_3, xI_6, xI_7, xI_8, xI_14, xI_16, xI_33, xI_36, xI_37, xI_38, xI_39, xI_43, xI_44, xI_46, xI_49, xI_50, xI_51, xI_52, xI_57, xI_58, xI_60, xI_61, xI_62, xw_X12_laySettled_0, xw_X12_laySettled_11, xw_X12_laySettled_35, xw_X12_laySettled_55, xw_X12_laySettled_61, xw_X12_laySettled_75, xw_X12_laySettled_79, xw_X12_laySettled_103, xw_X12_laySettled_105, xw_X12_laySettled_115, xw_X12_laySettled_157, xw_X12_laySettled_158, xw_X12_laySettled_165, xw_X12_laySettled_171, xw_X12_laySettled_185, xw_X12_laySettled_214, xw_X12_laySettled_223, xw_X12_laySettled_249, xw_X12_laySettled_268, xw_X12_laySettled_301, xw_X12_laySettled_317, xw_X12_laySettled_325, xw_X12_laySettled_354, xw_X12_laySettled_357, zw_lit, xB_c, xB_s, xB_n, i1_c, j2_c, k1_c, jJ_e, xlg, xls, xla, xpd, ppush, zw_m1, zw_m2, zw_m3, gf_12_0, gf_12_20, gf_12_44, gf_12_45, gf_12_46, gf_12_47, gf_12_48, gf_12_49, pf_12_47, pf_12_48, tg_12_0, tg_12_20, tg_12_44, tg_12_45, tg_12_46, tg_12_47, tg_12_48, tg_12_49, gv_590_0, gv_590_20, gv_590_44, gv_590_45, gv_590_46, gv_590_47, gv_590_48, gv_590_49, xD1, xD2, xD3, xD4, xD5, xD6, xb1_0, f47, c, c'] at h
      exact ⟨H, i, sc, fun l l0 l1 => hL l l0 (by omega), h⟩
/-- between two tries -/
def SI (A : Int → Int) (H0 H : PH) (τ : Int → Int) (j : Int) : Prop := SCm [598, 599, 600, 601, 602, 603, 604, 605, 617, 618, 619, 620] [17, 18, 19, 26, 47, 48] H0 H ∧ StX A H ∧ (∀ i, 0 ≤ i → i ≤ j → H 618 i = τ i) ∧ RT A τ (j + 1).toNat H ∧ (∀ i, 0 ≤ i → i < j → nrP A i (τ i)) ∧ (0 ≤ j → τ j = -1 ∨ nrP A j (τ j)) ∧ BST A (Dn τ j) H
def FnX (A : Int → Int) (H0 H : PH) (σ : Int → Int) : Prop := SCm [598, 599, 600, 601, 602, 603, 604, 605, 617, 618, 619, 620] [17, 18, 19, 26, 47, 48] H0 H ∧ StX A H ∧ fst1 A (dL A) (dN A) σ ∧ H 590 48 = toS A (dL A) σ (dN A) ∧ ∀ i, 0 ≤ i → i < (dN A : Int) → H 619 i = σ i
theorem SI_end {A τ : Int → Int} {H0 H : PH} (h : SI A H0 H τ (-1)) (nb : 0 < A 0) : ∃ σ, FnX A H0 H σ := by
  obtain ⟨s1, s2, _, _, _, _, b⟩ := h
  have all : ∀ σ, Dn τ (-1) σ := fun σ => Or.inr (fun l l0 l1 => by omega)
  obtain ⟨τ0, t0⟩ := rsp_ex (A := A) (D := dL A) (d := (dN A : Int)) nb
  rcases b with ⟨_, no⟩ | ⟨χ, c1, _, c3, c4, c5⟩
  · exact absurd (all τ0) (no τ0 t0)
  · exact ⟨χ, s1, s2, ⟨c1, fun σ hs => c5 σ hs (all σ)⟩, c3, c4⟩
set_option maxRecDepth 100000 in
theorem lp_sd185 (A : Int → Int) (ok : OKR A) (h5 : dN A ≤ 5) (nb : 0 < A 0) (H0 : PH) {E : xE} {res : xR} : ∀ (n : Nat) (j T x y : Int) (τ : Int → Int) (H : PH), -1 ≤ j → j < (dN A : Int) → T = toS A (dL A) τ (j + 1).toNat → SI A H0 H τ j → RUN E res n kd_X12_laySettled (zget kd_X12_laySettled 185) 185 [590, T, j, x, y] [] H → ∃ (H' : PH) (σ : Int → Int), FnX A H0 H' σ ∧ REPR E res (some (0, 1)) H' := by
  have a0 := ok.1.1
  have di := dN_in ok.1 h5
  have tob : ∀ (τ : Int → Int) (m : Nat), m ≤ dN A → 0 ≤ toS A (dL A) τ m ∧ toS A (dL A) τ m ≤ 12000000 := fun τ m hm => toS_bd ok.1 ok.2.2.2 (by omega) (fun i i0 i1 => di.1 i i0 (by omega))
  intro n
  induction n using Nat.strongRecOn with
  | _ n ih =>
    intro j T x y τ H j0 j1 hT hI h
    by_cases jn : j < 0
    · have ej : j = -1 := by omega
      subst ej
      obtain ⟨σ, f⟩ := SI_end hI nb
      have h := xw_top (hd := [11, 61, 79, 105, 115, 185, 223, 249, 325]) 26 xD6_ok xc_X12_laySettled xa_X12_laySettled (t := 185) rfl h
      simp (maxDischargeDepth := 12) -implicitDefEqProofs [vb_X12_laySettled_0, vb_X12_laySettled_11, vb_X12_laySettled_35, vb_X12_laySettled_55, vb_X12_laySettled_61, vb_X12_laySettled_75, vb_X12_laySettled_79, vb_X12_laySettled_103, vb_X12_laySettled_105, vb_X12_laySettled_115, vb_X12_laySettled_157, vb_X12_laySettled_158, vb_X12_laySettled_165, vb_X12_laySettled_171, vb_X12_laySettled_185, vb_X12_laySettled_214, vb_X12_laySettled_223, vb_X12_laySettled_249, vb_X12_laySettled_268, vb_X12_laySettled_301, vb_X12_laySettled_317, vb_X12_laySettled_325, vb_X12_laySettled_354, vb_X12_laySettled_357, xI_0, xI_1, xI_3, xI_6, xI_7, xI_8, xI_14, xI_16, xI_33, xI_36, xI_37, xI_38, xI_39, xI_43, xI_44, xI_46, xI_49, xI_50, xI_51, xI_52, xI_57, xI_58, xI_60, xI_61, xI_62, xw_X12_laySettled_0, xw_X12_laySettled_11, xw_X12_laySettled_35, xw_X12_laySettled_55, xw_X12_laySettled_61, xw_X12_laySettled_75, xw_X12_laySettled_79, xw_X12_laySettled_103, xw_X12_laySettled_105, xw_X12_laySettled_115, xw_X12_laySettled_157, xw_X12_laySettled_158, xw_X12_laySettled_165, xw_X12_laySettled_171, xw_X12_laySettled_185, xw_X12_laySettled_214, xw_X12_laySettled_223, xw_X12_laySettled_249, xw_X12_laySettled_268, xw_X12_laySettled_301, xw_X12_laySettled_317, xw_X12_laySettled_325, xw_X12_laySettled_354, xw_X12_laySettled_357, zw_lit, xB_c, xB_s, xB_n, i1_c, j2_c, k1_c, jJ_e, xlg, xls, xla, xpd, ppush, zw_m1, zw_m2, zw_m3, gf_12_0, gf_12_20, gf_12_44, gf_12_45, gf_12_46, gf_12_47, gf_12_48, gf_12_49, pf_12_47, pf_12_48, tg_12_0, tg_12_20, tg_12_44, tg_12_45, tg_12_46, tg_12_47, tg_12_48, tg_12_49, gv_590_0, gv_590_20, gv_590_44, gv_590_45, gv_590_46, gv_590_47, gv_590_48, gv_590_49, xD1, xD2, xD3, xD4, xD5, xD6, xb1_0] at h
      exact ⟨H, σ, f, h⟩
    · have jp : 0 ≤ j := by omega
      have hj : 0 ≤ j ∧ j < (dN A : Int) := ⟨jp, j1⟩
      obtain ⟨s1, s2, s3, s4, s5, s6, s7⟩ := hI
      have jt : (j + 1).toNat = j.toNat + 1 := by omega
      rw [jt] at hT s4
      have et := s3 j jp (Int.le_refl _)
      have zj : zw (j + 1) = j + 1 := zw_lit (by omega) (by omega)
      have zk : zw (j + -1) = j - 1 := zw_lit (by omega) (by omega)
      have zk2 : zw (j + 4294967295) = j - 1 := zw_dec (by omega) (by omega)
      /- behind what was read at this depth is taken off -/
      have go : ∀ (m : Nat) (T' p0 z : Int) (Hq : PH), m < n → p0 = τ j + 1 → (0 ≤ p0 ∧ p0 ≤ 12) → SCm [598, 603, 604] [] H Hq → RT A τ j.toNat Hq → T' = toS A (dL A) τ j.toNat → RUN E res m kd_X12_laySettled (zget kd_X12_laySettled 223) 223 [590, T', j, p0, z] [] Hq → ∃ (H' : PH) (σ : Int → Int), FnX A H0 H' σ ∧ REPR E res (some (0, 1)) H' := by
        intro m T' p0 z Hq hm hp0 hp12 sq rq hT' h
        have fq : StX A Hq := StX_SC s2 sq (by decide) (by decide)
        have q18 : Hq 618 = H 618 := sq.1 618 (by decide) (by decide)
        have q48 : Hq 590 48 = H 590 48 := sq.2 48 (by decide)
        have q19 : Hq 619 = H 619 := sq.1 619 (by decide) (by decide)
        have s1q : SCm [598, 599, 600, 601, 602, 603, 604, 605, 617, 618, 619, 620] [17, 18, 19, 26, 47, 48] H0 Hq := SCm_trans s1 (SCm_sub sq (by decide) (by decide))
        obtain ⟨p, g1, g2, g3, g4, m2, hm2, h⟩ := lp_sf223 A Hq fq a0.2 h5 j T' z hj m p0 hp12.1 hp12.2 h
        have gap : ∀ q, τ j < q → q < p → ¬ nrP A j q := fun q q0 q1 => g3 q (by omega) q1
        by_cases p12 : p = 12
        · subst p12
          have h := xw_top (hd := [11, 61, 79, 105, 115, 185, 223, 249, 325]) 26 xD6_ok xc_X12_laySettled xa_X12_laySettled (t := 249) rfl h
          simp (maxDischargeDepth := 12) -implicitDefEqProofs [vb_X12_laySettled_0, vb_X12_laySettled_11, vb_X12_laySettled_35, vb_X12_laySettled_55, vb_X12_laySettled_61, vb_X12_laySettled_75, vb_X12_laySettled_79, vb_X12_laySettled_103, vb_X12_laySettled_105, vb_X12_laySettled_115, vb_X12_laySettled_157, vb_X12_laySettled_158, vb_X12_laySettled_165, vb_X12_laySettled_171, vb_X12_laySettled_185, vb_X12_laySettled_214, vb_X12_laySettled_223, vb_X12_laySettled_249, vb_X12_laySettled_268, vb_X12_laySettled_301, vb_X12_laySettled_317, vb_X12_laySettled_325, vb_X12_laySettled_354, vb_X12_laySettled_357, xI_0, xI_1, xI_3, xI_6, xI_7, xI_8, xI_14, xI_16, xI_33, xI_36, xI_37, xI_38, xI_39, xI_43, xI_44, xI_46, xI_49, xI_50, xI_51, xI_52, xI_57, xI_58, xI_60, xI_61, xI_62, xw_X12_laySettled_0, xw_X12_laySettled_11, xw_X12_laySettled_35, xw_X12_laySettled_55, xw_X12_laySettled_61, xw_X12_laySettled_75, xw_X12_laySettled_79, xw_X12_laySettled_103, xw_X12_laySettled_105, xw_X12_laySettled_115, xw_X12_laySettled_157, xw_X12_laySettled_158, xw_X12_laySettled_165, xw_X12_laySettled_171, xw_X12_laySettled_185, xw_X12_laySettled_214, xw_X12_laySettled_223, xw_X12_laySettled_249, xw_X12_laySettled_268, xw_X12_laySettled_301, xw_X12_laySettled_317, xw_X12_laySettled_325, xw_X12_laySettled_354, xw_X12_laySettled_357, zw_lit, xB_c, xB_s, xB_n, i1_c, j2_c, k1_c, jJ_e, xlg, xls, xla, xpd, ppush, zw_m1, zw_m2, zw_m3, gf_12_0, gf_12_20, gf_12_44, gf_12_45, gf_12_46, gf_12_47, gf_12_48, gf_12_49, pf_12_47, pf_12_48, tg_12_0, tg_12_20, tg_12_44, tg_12_45, tg_12_46, tg_12_47, tg_12_48, tg_12_49, gv_590_0, gv_590_20, gv_590_44, gv_590_45, gv_590_46, gv_590_47, gv_590_48, gv_590_49, xD1, xD2, xD3, xD4, xD5, xD6, xb1_0, zk, zk2] at h
          obtain ⟨m3, hm3, h⟩ := h
          refine ih m3 (by omega) (j - 1) T' _ _ τ _ (by omega) (by omega) (by rw [hT', show (j - 1 + 1).toNat = j.toNat by omega]) ⟨SCm_trans s1q (SCm_cell (by decide) (by decide)), StX_SC fq (SCm_cell (cs := [618]) (fs := []) (by decide) (by decide)) (by decide) (by decide), fun i i0 i1 => ?_, ?_, fun i i0 i1 => s5 i i0 (by omega), fun q => Or.inr (s5 (j - 1) q (by omega)), ?_⟩ h
          · rw [xp_at, if_neg (by omega), q18]
            exact s3 i i0 (by omega)
          · rw [show (j - 1 + 1).toNat = j.toNat by omega]
            exact RT_fr rq (xp_ne (by decide)) (xp_ne (by decide))
          · refine BST_to s7 (fun σ hs => Dn_up hj gap a0.2 hs) ?_ ?_
            · rw [xp_ne (by decide)]
              exact q48
            · rw [xp_ne (by decide)]
              exact q19
        · have pl : p < 12 := by omega
          have np := g4 pl
          have hp : 0 ≤ p ∧ p < A 0 := np.1
          have p12' : ¬ p = 12 := p12
          have h := xw_top (hd := [11, 61, 79, 105, 115, 185, 223, 249, 325]) 26 xD6_ok xc_X12_laySettled xa_X12_laySettled (t := 249) rfl h
          simp (maxDischargeDepth := 12) -implicitDefEqProofs [vb_X12_laySettled_0, vb_X12_laySettled_11, vb_X12_laySettled_35, vb_X12_laySettled_55, vb_X12_laySettled_61, vb_X12_laySettled_75, vb_X12_laySettled_79, vb_X12_laySettled_103, vb_X12_laySettled_105, vb_X12_laySettled_115, vb_X12_laySettled_157, vb_X12_laySettled_158, vb_X12_laySettled_165, vb_X12_laySettled_171, vb_X12_laySettled_185, vb_X12_laySettled_214, vb_X12_laySettled_223, vb_X12_laySettled_249, vb_X12_laySettled_268, vb_X12_laySettled_301, vb_X12_laySettled_317, vb_X12_laySettled_325, vb_X12_laySettled_354, vb_X12_laySettled_357, xI_0, xI_1, xI_3, xI_6, xI_7, xI_8, xI_14, xI_16, xI_33, xI_36, xI_37, xI_38, xI_39, xI_43, xI_44, xI_46, xI_49, xI_50, xI_51, xI_52, xI_57, xI_58, xI_60, xI_61, xI_62, xw_X12_laySettled_0, xw_X12_laySettled_11, xw_X12_laySettled_35, xw_X12_laySettled_55, xw_X12_laySettled_61, xw_X12_laySettled_75, xw_X12_laySettled_79, xw_X12_laySettled_103, xw_X12_laySettled_105, xw_X12_laySettled_115, xw_X12_laySettled_157, xw_X12_laySettled_158, xw_X12_laySettled_165, xw_X12_laySettled_171, xw_X12_laySettled_185, xw_X12_laySettled_214, xw_X12_laySettled_223, xw_X12_laySettled_249, xw_X12_laySettled_268, xw_X12_laySettled_301, xw_X12_laySettled_317, xw_X12_laySettled_325, xw_X12_laySettled_354, xw_X12_laySettled_357, zw_lit, xB_c, xB_s, xB_n, i1_c, j2_c, k1_c, jJ_e, xlg, xls, xla, xpd, ppush, zw_m1, zw_m2, zw_m3, gf_12_0, gf_12_20, gf_12_44, gf_12_45, gf_12_46, gf_12_47, gf_12_48, gf_12_49, pf_12_47, pf_12_48, tg_12_0, tg_12_20, tg_12_44, tg_12_45, tg_12_46, tg_12_47, tg_12_48, tg_12_49, gv_590_0, gv_590_20, gv_590_44, gv_590_45, gv_590_46, gv_590_47, gv_590_48, gv_590_49, xD1, xD2, xD3, xD4, xD5, xD6, xb1_0, p12'] at h
          have fp : StX A (pup Hq 618 j p) := StX_SC fq (SCm_cell (cs := [618]) (fs := []) (by decide) (by decide)) (by decide) (by decide)
          obtain ⟨r, H1, ⟨rfl, rt1, sc1⟩, h⟩ := xc_use h (sp_tk_add j p τ A (pup Hq 618 j p) ok h5 fp hj hp (RT_fr rq (xp_ne (by decide)) (xp_ne (by decide))))
          obtain ⟨v, hv⟩ : ∃ v, v = toS A (dL A) (xup τ j p) (j.toNat + 1) - toS A (dL A) τ j.toNat := ⟨_, rfl⟩
          rw [← hv] at h
          have t1 := tob (xup τ j p) (j.toNat + 1) (by omega)
          have t2 := tob τ j.toNat (by omega)
          have zT : zw (T' + v) = T' + v := zw_lit (by omega) (by omega)
          have f1 : StX A H1 := StX_SC fp sc1 (by decide) (by decide)
          have e47 := f1.2.1
          have u18 : ∀ i, H1 618 i = if i = j then p else H 618 i := fun i => by rw [sc1.1 618 (by decide) (by decide), xp_at, q18]
          have u48 : H1 590 48 = H 590 48 := by rw [sc1.2 48 (by decide), xp_ne (by decide)]; exact q48
          have u19 : H1 619 = H 619 := by rw [sc1.1 619 (by decide) (by decide), xp_ne (by decide)]; exact q19
          have s1u : SCm [598, 599, 600, 601, 602, 603, 604, 605, 617, 618, 619, 620] [17, 18, 19, 26, 47, 48] H0 H1 := SCm_trans s1q (SCm_trans (SCm_cell (by decide) (by decide)) (SCm_sub sc1 (by decide) (by decide)))
          have bl : BST A (LTn (xup τ j p) j) H1 := BST_to s7 (fun σ hs => Dn_lt hj (by omega) gap hs) u48 u19
          have eT : T' + v = toS A (dL A) (xup τ j p) (j.toNat + 1) := by omega
          have tr : ∀ i, 0 ≤ i → i ≤ j → H1 618 i = xup τ j p i := fun i i0 i1 => by
            rw [u18]
            unfold xup
            by_cases e : i = j
            · rw [if_pos e, if_pos e]
            · rw [if_neg e, if_neg e]
              exact s3 i i0 i1
          have nr : ∀ i, 0 ≤ i → i ≤ j → nrP A i (xup τ j p i) := fun i i0 i1 => by
            by_cases e : i = j
            · rw [e, xup_a]
              exact np
            · rw [xup_n e]
              exact s5 i i0 (by omega)
          by_cases c : j + 1 < (dN A : Int)
          · have c' : ¬ (dN A : Int) ≤ j + 1 := by omega
            simp (maxDischargeDepth := 12) -implicitDefEqProofs [vb_X12_laySettled_0, vb_X12_laySettled_11, vb_X12_laySettled_35, vb_X12_laySettled_55, vb_X12_laySettled_61, vb_X12_laySettled_75, vb_X12_laySettled_79, vb_X12_laySettled_103, vb_X12_laySettled_105, vb_X12_laySettled_115, vb_X12_laySettled_157, vb_X12_laySettled_158, vb_X12_laySettled_165, vb_X12_laySettled_171, vb_X12_laySettled_185, vb_X12_laySettled_214, vb_X12_laySettled_223, vb_X12_laySettled_249, vb_X12_laySettled_268, vb_X12_laySettled_301, vb_X12_laySettled_317, vb_X12_laySettled_325, vb_X12_laySettled_354, vb_X12_laySettled_357, xI_0, xI_1, xI_3, xI_6, xI_7, xI_8, xI_14, xI_16, xI_33, xI_36, xI_37, xI_38, xI_39, xI_43, xI_44, xI_46, xI_49, xI_50, xI_51, xI_52, xI_57, xI_58, xI_60, xI_61, xI_62, xw_X12_laySettled_0, xw_X12_laySettled_11, xw_X12_laySettled_35, xw_X12_laySettled_55, xw_X12_laySettled_61, xw_X12_laySettled_75, xw_X12_laySettled_79, xw_X12_laySettled_103, xw_X12_laySettled_105, xw_X12_laySettled_115, xw_X12_laySettled_157, xw_X12_laySettled_158, xw_X12_laySettled_165, xw_X12_laySettled_171, xw_X12_laySettled_185, xw_X12_laySettled_214, xw_X12_laySettled_223, xw_X12_laySettled_249, xw_X12_laySettled_268, xw_X12_laySettled_301, xw_X12_laySettled_317, xw_X12_laySettled_325, xw_X12_laySettled_354, xw_X12_laySettled_357, zw_lit, xB_c, xB_s, xB_n, i1_c, j2_c, k1_c, jJ_e, xlg, xls, xla, xpd, ppush, zw_m1, zw_m2, zw_m3, gf_12_0, gf_12_20, gf_12_44, gf_12_45, gf_12_46, gf_12_47, gf_12_48, gf_12_49, pf_12_47, pf_12_48, tg_12_0, tg_12_20, tg_12_44, tg_12_45, tg_12_46, tg_12_47, tg_12_48, tg_12_49, gv_590_0, gv_590_20, gv_590_44, gv_590_45, gv_590_46, gv_590_47, gv_590_48, gv_590_49, xD1, xD2, xD3, xD4, xD5, xD6, xb1_0, zT, zj, e47, c, c'] at h
            obtain ⟨m3, hm3, h⟩ := h
            have lo : ∀ i, i ≤ j → xup (xup τ j p) (j + 1) (-1) i = xup τ j p i := fun i i1 => xup_n (by omega)
            have jj : ((j + 1).toNat) = j.toNat + 1 := jt
            have up : (j + 1 + 1).toNat = (j + 1).toNat + 1 := by omega
            have xn : xup (xup τ j p) (j + 1) (-1) (j + 1) = -1 := xup_a
            refine ih m3 (by omega) (j + 1) (T' + v) _ _ (xup (xup τ j p) (j + 1) (-1)) _ (by omega) c ?_ ⟨SCm_trans s1u (SCm_cell (by decide) (by decide)), StX_SC f1 (SCm_cell (cs := [618]) (fs := []) (by decide) (by decide)) (by decide) (by decide), fun i i0 i1 => ?_, ?_, fun i i0 i1 => ?_, fun _ => Or.inl xn, ?_⟩ h
            · rw [up, toS_no (by omega) xn, toS_lo (by omega), jj]
              exact eT
            · rw [xp_at]
              by_cases e : i = j + 1
              · rw [if_pos e, e, xn]
              · rw [if_neg e, lo i (by omega)]
                exact tr i i0 (by omega)
            · refine RT_eq (RT_fr rt1 (xp_ne (by decide)) (xp_ne (by decide))) (fun b sd b0 => ?_)
              rw [up, exS_no (by omega) (by rw [xn]; omega), exS_lo (by omega), jj]
            · rw [lo i (by omega)]
              exact nr i i0 (by omega)
            · exact BST_to bl (fun σ hs => (Dn_dn ⟨jp, c⟩ hs).symm) (by rw [xp_ne (by decide)]) (xp_ne (by decide))
          · have c' : (dN A : Int) ≤ j + 1 := by omega
            have ejd : j + 1 = (dN A : Int) := by omega
            have ejn : j.toNat + 1 = dN A := by omega
            have rsτ : rs A (xup τ j p) := fun i i0 i1 => nr i i0 (by omega)
            rw [ejn] at eT
            have cpy : ∀ (z' : Int), (H 590 48 = -1 ∨ T' + v < H 590 48) → xJ E res m2 kd_X12_laySettled 325 [590, T' + v, j, p, z'] [] (pup H1 590 48 (T' + v)) → z' = 0 → ∃ (H' : PH) (σ : Int → Int), FnX A H0 H' σ ∧ REPR E res (some (0, 1)) H' := by
              rintro z' hc ⟨m3, hm3, g⟩ rfl
              have e47' : pup H1 590 48 (T' + v) 590 47 = (dN A : Int) := by rw [xp_at, if_neg (by decide)]; exact e47
              obtain ⟨H2, i', k1, k2, m4, hm4, g⟩ := lp_sc325 (dN A : Int) j (T' + v) p (pup H1 590 48 (T' + v)) e47' (by omega) m3 0 _ (by decide) (by omega) SCm_refl (fun l l0 l1 => by omega) g
              have w18 : H2 618 = H1 618 := (k1.1 618 (by decide) (by decide)).trans (xp_ne (by decide))
              have w3 : H2 603 = H1 603 := (k1.1 603 (by decide) (by decide)).trans (xp_ne (by decide))
              have w4 : H2 604 = H1 604 := (k1.1 604 (by decide) (by decide)).trans (xp_ne (by decide))
              have w48 : H2 590 48 = T' + v := by rw [k1.2 48 (by decide), xp_at, if_pos rfl]
              refine ih m4 (by omega) j (T' + v) _ _ (xup τ j p) H2 (by omega) j1 (by rw [jt, ejn]; exact eT) ⟨SCm_trans s1u (SCm_trans (SCm_fld (by decide)) (SCm_sub k1 (by decide) (by decide))), StX_SC f1 (SCm_trans (SCm_fld (cs := [619]) (fs := [48]) (by decide)) (SCm_sub k1 (by decide) (by decide))) (by decide) (by decide), fun i i0 i1 => by rw [w18]; exact tr i i0 i1, by rw [jt]; exact RT_fr rt1 w3 w4, fun i i0 i1 => nr i i0 (by omega), fun _ => Or.inr (nr j jp (Int.le_refl _)), ?_⟩ g
              exact BST_new ok h5 ejd bl rsτ (by rw [u48, ← eT]; exact hc) (by rw [w48]; exact eT) (fun i i0 i1 => by
                rw [k2 i i0 i1, xp_ne (by decide)]
                exact tr i i0 (by omega))
            have old : ∀ (z' : Int), ¬ H 590 48 = -1 → ¬ T' + v < H 590 48 → xJ E res m2 kd_X12_laySettled 185 [590, T' + v, j, p, z'] [] H1 → ∃ (H' : PH) (σ : Int → Int), FnX A H0 H' σ ∧ REPR E res (some (0, 1)) H' := by
              rintro z' c1 c2 ⟨m3, hm3, g⟩
              refine ih m3 (by omega) j (T' + v) _ _ (xup τ j p) H1 (by omega) j1 (by rw [jt, ejn]; exact eT) ⟨s1u, f1, tr, by rw [jt]; exact rt1, fun i i0 i1 => nr i i0 (by omega), fun _ => Or.inr (nr j jp (Int.le_refl _)), ?_⟩ g
              exact BST_old ejd bl ⟨by rw [u48]; exact c1, by rw [u48, ← eT]; exact c2⟩ rfl rfl
            by_cases f1 : H 590 48 = -1
            · rw [f1] at u48
              simp (maxDischargeDepth := 12) -implicitDefEqProofs [vb_X12_laySettled_0, vb_X12_laySettled_11, vb_X12_laySettled_35, vb_X12_laySettled_55, vb_X12_laySettled_61, vb_X12_laySettled_75, vb_X12_laySettled_79, vb_X12_laySettled_103, vb_X12_laySettled_105, vb_X12_laySettled_115, vb_X12_laySettled_157, vb_X12_laySettled_158, vb_X12_laySettled_165, vb_X12_laySettled_171, vb_X12_laySettled_185, vb_X12_laySettled_214, vb_X12_laySettled_223, vb_X12_laySettled_249, vb_X12_laySettled_268, vb_X12_laySettled_301, vb_X12_laySettled_317, vb_X12_laySettled_325, vb_X12_laySettled_354, vb_X12_laySettled_357, xI_0, xI_1, xI_3, xI_6, xI_7, xI_8, xI_14, xI_16, xI_33, xI_36, xI_37, xI_38, xI_39, xI_43, xI_44, xI_46, xI_49, xI_50, xI_51, xI_52, xI_57, xI_58, xI_60, xI_61, xI_62, xw_X12_laySettled_0, xw_X12_laySettled_11, xw_X12_laySettled_35, xw_X12_laySettled_55, xw_X12_laySettled_61, xw_X12_laySettled_75, xw_X12_laySettled_79, xw_X12_laySettled_103, xw_X12_laySettled_105, xw_X12_laySettled_115, xw_X12_laySettled_157, xw_X12_laySettled_158, xw_X12_laySettled_165, xw_X12_laySettled_171, xw_X12_laySettled_185, xw_X12_laySettled_214, xw_X12_laySettled_223, xw_X12_laySettled_249, xw_X12_laySettled_268, xw_X12_laySettled_301, xw_X12_laySettled_317, xw_X12_laySettled_325, xw_X12_laySettled_354, xw_X12_laySettled_357, zw_lit, xB_c, xB_s, xB_n, i1_c, j2_c, k1_c, jJ_e, xlg, xls, xla, xpd, ppush, zw_m1, zw_m2, zw_m3, gf_12_0, gf_12_20, gf_12_44, gf_12_45, gf_12_46, gf_12_47, gf_12_48, gf_12_49, pf_12_47, pf_12_48, tg_12_0, tg_12_20, tg_12_44, tg_12_45, tg_12_46, tg_12_47, tg_12_48, tg_12_49, gv_590_0, gv_590_20, gv_590_44, gv_590_45, gv_590_46, gv_590_47, gv_590_48, gv_590_49, xD1, xD2, xD3, xD4, xD5, xD6, xb1_0, zT, zj, e47, c, c', u48] at h
              exact cpy _ (Or.inl f1) h rfl
            · by_cases f2 : T' + v < H 590 48
              · have f2' : ¬ H 590 48 ≤ T' + v := by omega
                simp (maxDischargeDepth := 12) -implicitDefEqProofs [vb_X12_laySettled_0, vb_X12_laySettled_11, vb_X12_laySettled_35, vb_X12_laySettled_55, vb_X12_laySettled_61, vb_X12_laySettled_75, vb_X12_laySettled_79, vb_X12_laySettled_103, vb_X12_laySettled_105, vb_X12_laySettled_115, vb_X12_laySettled_157, vb_X12_laySettled_158, vb_X12_laySettled_165, vb_X12_laySettled_171, vb_X12_laySettled_185, vb_X12_laySettled_214, vb_X12_laySettled_223, vb_X12_laySettled_249, vb_X12_laySettled_268, vb_X12_laySettled_301, vb_X12_laySettled_317, vb_X12_laySettled_325, vb_X12_laySettled_354, vb_X12_laySettled_357, xI_0, xI_1, xI_3, xI_6, xI_7, xI_8, xI_14, xI_16, xI_33, xI_36, xI_37, xI_38, xI_39, xI_43, xI_44, xI_46, xI_49, xI_50, xI_51, xI_52, xI_57, xI_58, xI_60, xI_61, xI_62, xw_X12_laySettled_0, xw_X12_laySettled_11, xw_X12_laySettled_35, xw_X12_laySettled_55, xw_X12_laySettled_61, xw_X12_laySettled_75, xw_X12_laySettled_79, xw_X12_laySettled_103, xw_X12_laySettled_105, xw_X12_laySettled_115, xw_X12_laySettled_157, xw_X12_laySettled_158, xw_X12_laySettled_165, xw_X12_laySettled_171, xw_X12_laySettled_185, xw_X12_laySettled_214, xw_X12_laySettled_223, xw_X12_laySettled_249, xw_X12_laySettled_268, xw_X12_laySettled_301, xw_X12_laySettled_317, xw_X12_laySettled_325, xw_X12_laySettled_354, xw_X12_laySettled_357, zw_lit, xB_c, xB_s, xB_n, i1_c, j2_c, k1_c, jJ_e, xlg, xls, xla, xpd, ppush, zw_m1, zw_m2, zw_m3, gf_12_0, gf_12_20, gf_12_44, gf_12_45, gf_12_46, gf_12_47, gf_12_48, gf_12_49, pf_12_47, pf_12_48, tg_12_0, tg_12_20, tg_12_44, tg_12_45, tg_12_46, tg_12_47, tg_12_48, tg_12_49, gv_590_0, gv_590_20, gv_590_44, gv_590_45, gv_590_46, gv_590_47, gv_590_48, gv_590_49, xD1, xD2, xD3, xD4, xD5, xD6, xb1_0, zT, zj, e47, c, c', u48, f1, f2, f2'] at h
                exact cpy _ (Or.inr f2) h rfl
              · have f2' : H 590 48 ≤ T' + v := by omega
                simp (maxDischargeDepth := 12) -implicitDefEqProofs [vb_X12_laySettled_0, vb_X12_laySettled_11, vb_X12_laySettled_35, vb_X12_laySettled_55, vb_X12_laySettled_61, vb_X12_laySettled_75, vb_X12_laySettled_79, vb_X12_laySettled_103, vb_X12_laySettled_105, vb_X12_laySettled_115, vb_X12_laySettled_157, vb_X12_laySettled_158, vb_X12_laySettled_165, vb_X12_laySettled_171, vb_X12_laySettled_185, vb_X12_laySettled_214, vb_X12_laySettled_223, vb_X12_laySettled_249, vb_X12_laySettled_268, vb_X12_laySettled_301, vb_X12_laySettled_317, vb_X12_laySettled_325, vb_X12_laySettled_354, vb_X12_laySettled_357, xI_0, xI_1, xI_3, xI_6, xI_7, xI_8, xI_14, xI_16, xI_33, xI_36, xI_37, xI_38, xI_39, xI_43, xI_44, xI_46, xI_49, xI_50, xI_51, xI_52, xI_57, xI_58, xI_60, xI_61, xI_62, xw_X12_laySettled_0, xw_X12_laySettled_11, xw_X12_laySettled_35, xw_X12_laySettled_55, xw_X12_laySettled_61, xw_X12_laySettled_75, xw_X12_laySettled_79, xw_X12_laySettled_103, xw_X12_laySettled_105, xw_X12_laySettled_115, xw_X12_laySettled_157, xw_X12_laySettled_158, xw_X12_laySettled_165, xw_X12_laySettled_171, xw_X12_laySettled_185, xw_X12_laySettled_214, xw_X12_laySettled_223, xw_X12_laySettled_249, xw_X12_laySettled_268, xw_X12_laySettled_301, xw_X12_laySettled_317, xw_X12_laySettled_325, xw_X12_laySettled_354, xw_X12_laySettled_357, zw_lit, xB_c, xB_s, xB_n, i1_c, j2_c, k1_c, jJ_e, xlg, xls, xla, xpd, ppush, zw_m1, zw_m2, zw_m3, gf_12_0, gf_12_20, gf_12_44, gf_12_45, gf_12_46, gf_12_47, gf_12_48, gf_12_49, pf_12_47, pf_12_48, tg_12_0, tg_12_20, tg_12_44, tg_12_45, tg_12_46, tg_12_47, tg_12_48, tg_12_49, gv_590_0, gv_590_20, gv_590_44, gv_590_45, gv_590_46, gv_590_47, gv_590_48, gv_590_49, xD1, xD2, xD3, xD4, xD5, xD6, xb1_0, zT, zj, e47, c, c', u48, f1, f2, f2'] at h
                exact old _ f1 f2 h
      rcases s6 jp with tn | tp
      · have h := xw_top (hd := [11, 61, 79, 105, 115, 185, 223, 249, 325]) 26 xD6_ok xc_X12_laySettled xa_X12_laySettled (t := 185) rfl h
        simp (maxDischargeDepth := 12) -implicitDefEqProofs [vb_X12_laySettled_0, vb_X12_laySettled_11, vb_X12_laySettled_35, vb_X12_laySettled_55, vb_X12_laySettled_61, vb_X12_laySettled_75, vb_X12_laySettled_79, vb_X12_laySettled_103, vb_X12_laySettled_105, vb_X12_laySettled_115, vb_X12_laySettled_157, vb_X12_laySettled_158, vb_X12_laySettled_165, vb_X12_laySettled_171, vb_X12_laySettled_185, vb_X12_laySettled_214, vb_X12_laySettled_223, vb_X12_laySettled_249, vb_X12_laySettled_268, vb_X12_laySettled_301, vb_X12_laySettled_317, vb_X12_laySettled_325, vb_X12_laySettled_354, vb_X12_laySettled_357, xI_0, xI_1, xI_3, xI_6, xI_7, xI_8, xI_14, xI_16, xI_33, xI_36, xI_37, xI_38, xI_39, xI_43, xI_44, xI_46, xI_49, xI_50, xI_51, xI_52, xI_57, xI_58, xI_60, xI_61, xI_62, xw_X12_laySettled_0, xw_X12_laySettled_11, xw_X12_laySettled_35, xw_X12_laySettled_55, xw_X12_laySettled_61, xw_X12_laySettled_75, xw_X12_laySettled_79, xw_X12_laySettled_103, xw_X12_laySettled_105, xw_X12_laySettled_115, xw_X12_laySettled_157, xw_X12_laySettled_158, xw_X12_laySettled_165, xw_X12_laySettled_171, xw_X12_laySettled_185, xw_X12_laySettled_214, xw_X12_laySettled_223, xw_X12_laySettled_249, xw_X12_laySettled_268, xw_X12_laySettled_301, xw_X12_laySettled_317, xw_X12_laySettled_325, xw_X12_laySettled_354, xw_X12_laySettled_357, zw_lit, xB_c, xB_s, xB_n, i1_c, j2_c, k1_c, jJ_e, xlg, xls, xla, xpd, ppush, zw_m1, zw_m2, zw_m3, gf_12_0, gf_12_20, gf_12_44, gf_12_45, gf_12_46, gf_12_47, gf_12_48, gf_12_49, pf_12_47, pf_12_48, tg_12_0, tg_12_20, tg_12_44, tg_12_45, tg_12_46, tg_12_47, tg_12_48, tg_12_49, gv_590_0, gv_590_20, gv_590_44, gv_590_45, gv_590_46, gv_590_47, gv_590_48, gv_590_49, xD1, xD2, xD3, xD4, xD5, xD6, xb1_0, jn, jp, et, tn] at h
        obtain ⟨m, hm, h⟩ := h
        exact go m T 0 _ H hm (by omega) (by decide) SCm_refl (RT_eq s4 (fun b sd b0 => (exS_no jp (by omega)).symm)) (by rw [hT]; exact toS_no jp tn) h
      · have tn : ¬ τ j = -1 := by omega
        have zt : zw (τ j + 1) = τ j + 1 := zw_lit (by omega) (by omega)
        have h := xw_top (hd := [11, 61, 79, 105, 115, 185, 223, 249, 325]) 26 xD6_ok xc_X12_laySettled xa_X12_laySettled (t := 185) rfl h
        simp (maxDischargeDepth := 12) -implicitDefEqProofs [vb_X12_laySettled_0, vb_X12_laySettled_11, vb_X12_laySettled_35, vb_X12_laySettled_55, vb_X12_laySettled_61, vb_X12_laySettled_75, vb_X12_laySettled_79, vb_X12_laySettled_103, vb_X12_laySettled_105, vb_X12_laySettled_115, vb_X12_laySettled_157, vb_X12_laySettled_158, vb_X12_laySettled_165, vb_X12_laySettled_171, vb_X12_laySettled_185, vb_X12_laySettled_214, vb_X12_laySettled_223, vb_X12_laySettled_249, vb_X12_laySettled_268, vb_X12_laySettled_301, vb_X12_laySettled_317, vb_X12_laySettled_325, vb_X12_laySettled_354, vb_X12_laySettled_357, xI_0, xI_1, xI_3, xI_6, xI_7, xI_8, xI_14, xI_16, xI_33, xI_36, xI_37, xI_38, xI_39, xI_43, xI_44, xI_46, xI_49, xI_50, xI_51, xI_52, xI_57, xI_58, xI_60, xI_61, xI_62, xw_X12_laySettled_0, xw_X12_laySettled_11, xw_X12_laySettled_35, xw_X12_laySettled_55, xw_X12_laySettled_61, xw_X12_laySettled_75, xw_X12_laySettled_79, xw_X12_laySettled_103, xw_X12_laySettled_105, xw_X12_laySettled_115, xw_X12_laySettled_157, xw_X12_laySettled_158, xw_X12_laySettled_165, xw_X12_laySettled_171, xw_X12_laySettled_185, xw_X12_laySettled_214, xw_X12_laySettled_223, xw_X12_laySettled_249, xw_X12_laySettled_268, xw_X12_laySettled_301, xw_X12_laySettled_317, xw_X12_laySettled_325, xw_X12_laySettled_354, xw_X12_laySettled_357, zw_lit, xB_c, xB_s, xB_n, i1_c, j2_c, k1_c, jJ_e, xlg, xls, xla, xpd, ppush, zw_m1, zw_m2, zw_m3, gf_12_0, gf_12_20, gf_12_44, gf_12_45, gf_12_46, gf_12_47, gf_12_48, gf_12_49, pf_12_47, pf_12_48, tg_12_0, tg_12_20, tg_12_44, tg_12_45, tg_12_46, tg_12_47, tg_12_48, tg_12_49, gv_590_0, gv_590_20, gv_590_44, gv_590_45, gv_590_46, gv_590_47, gv_590_48, gv_590_49, xD1, xD2, xD3, xD4, xD5, xD6, xb1_0, jn, jp, et, tn] at h
        obtain ⟨r, H1, ⟨rfl, rt1, sc1⟩, h⟩ := xc_use h (sp_tk_sub j τ A H ok h5 s2 hj tp.1 s4)
        obtain ⟨v, hv⟩ : ∃ v, v = toS A (dL A) τ j.toNat - toS A (dL A) τ (j.toNat + 1) := ⟨_, rfl⟩
        rw [← hv] at h
        have t1 := tob τ (j.toNat + 1) (by omega)
        have t2 := tob τ j.toNat (by omega)
        have zT : zw (T + v) = T + v := zw_lit (by omega) (by omega)
        have e18 : H1 618 j = τ j := by rw [sc1.1 618 (by decide) (by decide)]; exact et
        simp (maxDischargeDepth := 12) -implicitDefEqProofs [vb_X12_laySettled_0, vb_X12_laySettled_11, vb_X12_laySettled_35, vb_X12_laySettled_55, vb_X12_laySettled_61, vb_X12_laySettled_75, vb_X12_laySettled_79, vb_X12_laySettled_103, vb_X12_laySettled_105, vb_X12_laySettled_115, vb_X12_laySettled_157, vb_X12_laySettled_158, vb_X12_laySettled_165, vb_X12_laySettled_171, vb_X12_laySettled_185, vb_X12_laySettled_214, vb_X12_laySettled_223, vb_X12_laySettled_249, vb_X12_laySettled_268, vb_X12_laySettled_301, vb_X12_laySettled_317, vb_X12_laySettled_325, vb_X12_laySettled_354, vb_X12_laySettled_357, xI_0, xI_1, xI_3, xI_6, xI_7, xI_8, xI_14, xI_16, xI_33, xI_36, xI_37, xI_38, xI_39, xI_43, xI_44, xI_46, xI_49, xI_50, xI_51, xI_52, xI_57, xI_58, xI_60, xI_61, xI_62, xw_X12_laySettled_0, xw_X12_laySettled_11, xw_X12_laySettled_35, xw_X12_laySettled_55, xw_X12_laySettled_61, xw_X12_laySettled_75, xw_X12_laySettled_79, xw_X12_laySettled_103, xw_X12_laySettled_105, xw_X12_laySettled_115, xw_X12_laySettled_157, xw_X12_laySettled_158, xw_X12_laySettled_165, xw_X12_laySettled_171, xw_X12_laySettled_185, xw_X12_laySettled_214, xw_X12_laySettled_223, xw_X12_laySettled_249, xw_X12_laySettled_268, xw_X12_laySettled_301, xw_X12_laySettled_317, xw_X12_laySettled_325, xw_X12_laySettled_354, xw_X12_laySettled_357, zw_lit, xB_c, xB_s, xB_n, i1_c, j2_c, k1_c, jJ_e, xlg, xls, xla, xpd, ppush, zw_m1, zw_m2, zw_m3, gf_12_0, gf_12_20, gf_12_44, gf_12_45, gf_12_46, gf_12_47, gf_12_48, gf_12_49, pf_12_47, pf_12_48, tg_12_0, tg_12_20, tg_12_44, tg_12_45, tg_12_46, tg_12_47, tg_12_48, tg_12_49, gv_590_0, gv_590_20, gv_590_44, gv_590_45, gv_590_46, gv_590_47, gv_590_48, gv_590_49, xD1, xD2, xD3, xD4, xD5, xD6, xb1_0, zT, e18, zt] at h
        obtain ⟨m, hm, h⟩ := h
        exact go m (T + v) (τ j + 1) _ H1 hm rfl (by omega) sc1 rt1 (by omega) h
set_option maxRecDepth 100000 in
theorem sp_m_laySettled (H : PH) (ok : OKR (H 591)) : SPEC 261 [(2, 590)] H (fun r H' => SCm [598, 599, 600, 601, 602, 603, 604, 605, 617, 618, 619, 620] [17, 18, 19, 26, 47, 48] H H' ∧ ((¬ (1 ≤ (dbZ (H 591)).1 ∧ (dbZ (H 591)).1 ≤ 5) ∧ r = some (0, 0)) ∨ ((1 ≤ (dbZ (H 591)).1 ∧ (dbZ (H 591)).1 ≤ 5) ∧ r = some (0, 1) ∧ ∃ σ, FnX (H 591) H H' σ))) := by
  intro E n res h
  have a0 := ok.1.1
  have a2 := ok.1.2.2.1
  have h := call_runP 5 vm_X12_laySettled h
  have h := xw_top (hd := [11, 61, 79, 105, 115, 185, 223, 249, 325]) 26 xD6_ok xc_X12_laySettled xa_X12_laySettled (t := 0) rfl h
  simp (maxDischargeDepth := 12) -implicitDefEqProofs [vb_X12_laySettled_0, vb_X12_laySettled_11, vb_X12_laySettled_35, vb_X12_laySettled_55, vb_X12_laySettled_61, vb_X12_laySettled_75, vb_X12_laySettled_79, vb_X12_laySettled_103, vb_X12_laySettled_105, vb_X12_laySettled_115, vb_X12_laySettled_157, vb_X12_laySettled_158, vb_X12_laySettled_165, vb_X12_laySettled_171, vb_X12_laySettled_185, vb_X12_laySettled_214, vb_X12_laySettled_223, vb_X12_laySettled_249, vb_X12_laySettled_268, vb_X12_laySettled_301, vb_X12_laySettled_317, vb_X12_laySettled_325, vb_X12_laySettled_354, vb_X12_laySettled_357, xI_0, xI_1, xI_3, xI_6, xI_7, xI_8, xI_14, xI_16, xI_33, xI_36, xI_37, xI_38, xI_39, xI_43, xI_44, xI_46, xI_49, xI_50, xI_51, xI_52, xI_57, xI_58, xI_60, xI_61, xI_62, xw_X12_laySettled_0, xw_X12_laySettled_11, xw_X12_laySettled_35, xw_X12_laySettled_55, xw_X12_laySettled_61, xw_X12_laySettled_75, xw_X12_laySettled_79, xw_X12_laySettled_103, xw_X12_laySettled_105, xw_X12_laySettled_115, xw_X12_laySettled_157, xw_X12_laySettled_158, xw_X12_laySettled_165, xw_X12_laySettled_171, xw_X12_laySettled_185, xw_X12_laySettled_214, xw_X12_laySettled_223, xw_X12_laySettled_249, xw_X12_laySettled_268, xw_X12_laySettled_301, xw_X12_laySettled_317, xw_X12_laySettled_325, xw_X12_laySettled_354, xw_X12_laySettled_357, zw_lit, xB_c, xB_s, xB_n, i1_c, j2_c, k1_c, jJ_e, xlg, xls, xla, xpd, ppush, zw_m1, zw_m2, zw_m3, gf_12_0, gf_12_20, gf_12_44, gf_12_45, gf_12_46, gf_12_47, gf_12_48, gf_12_49, pf_12_47, pf_12_48, tg_12_0, tg_12_20, tg_12_44, tg_12_45, tg_12_46, tg_12_47, tg_12_48, tg_12_49, gv_590_0, gv_590_20, gv_590_44, gv_590_45, gv_590_46, gv_590_47, gv_590_48, gv_590_49, xD1, xD2, xD3, xD4, xD5, xD6, xb1_0] at h
  obtain ⟨r, Hl, ⟨rfl, ld, sc⟩, h⟩ := xc_use h (sp_X12_layReads H ok.1 ok.2.1)
  simp (maxDischargeDepth := 12) -implicitDefEqProofs [vb_X12_laySettled_0, vb_X12_laySettled_11, vb_X12_laySettled_35, vb_X12_laySettled_55, vb_X12_laySettled_61, vb_X12_laySettled_75, vb_X12_laySettled_79, vb_X12_laySettled_103, vb_X12_laySettled_105, vb_X12_laySettled_115, vb_X12_laySettled_157, vb_X12_laySettled_158, vb_X12_laySettled_165, vb_X12_laySettled_171, vb_X12_laySettled_185, vb_X12_laySettled_214, vb_X12_laySettled_223, vb_X12_laySettled_249, vb_X12_laySettled_268, vb_X12_laySettled_301, vb_X12_laySettled_317, vb_X12_laySettled_325, vb_X12_laySettled_354, vb_X12_laySettled_357, xI_0, xI_1, xI_3, xI_6, xI_7, xI_8, xI_14, xI_16, xI_33, xI_36, xI_37, xI_38, xI_39, xI_43, xI_44, xI_46, xI_49, xI_50, xI_51, xI_52, xI_57, xI_58, xI_60, xI_61, xI_62, xw_X12_laySettled_0, xw_X12_laySettled_11, xw_X12_laySettled_35, xw_X12_laySettled_55, xw_X12_laySettled_61, xw_X12_laySettled_75, xw_X12_laySettled_79, xw_X12_laySettled_103, xw_X12_laySettled_105, xw_X12_laySettled_115, xw_X12_laySettled_157, xw_X12_laySettled_158, xw_X12_laySettled_165, xw_X12_laySettled_171, xw_X12_laySettled_185, xw_X12_laySettled_214, xw_X12_laySettled_223, xw_X12_laySettled_249, xw_X12_laySettled_268, xw_X12_laySettled_301, xw_X12_laySettled_317, xw_X12_laySettled_325, xw_X12_laySettled_354, xw_X12_laySettled_357, zw_lit, xB_c, xB_s, xB_n, i1_c, j2_c, k1_c, jJ_e, xlg, xls, xla, xpd, ppush, zw_m1, zw_m2, zw_m3, gf_12_0, gf_12_20, gf_12_44, gf_12_45, gf_12_46, gf_12_47, gf_12_48, gf_12_49, pf_12_47, pf_12_48, tg_12_0, tg_12_20, tg_12_44, tg_12_45, tg_12_46, tg_12_47, tg_12_48, tg_12_49, gv_590_0, gv_590_20, gv_590_44, gv_590_45, gv_590_46, gv_590_47, gv_590_48, gv_590_49, xD1, xD2, xD3, xD4, xD5, xD6, xb1_0] at h
  obtain ⟨m, hm, h⟩ := h
  have e91 : Hl 591 = H 591 := sc.1 591 (by decide) (by decide)
  have e91' : pup Hl 590 47 0 591 = H 591 := by rw [xp_ne (by decide)]; exact e91
  obtain ⟨H1, k', b1, b2, b3, m1, hm1, h⟩ := lp_sg11 (H 591) (pup Hl 590 47 0) ok.1 e91' (fun x x0 x1 => by rw [xp_ne (by decide)]; exact ld.2.2.1 x x0 x1) _ _ _ m 0 _ (by decide) a2.1 SCm_refl ⟨by rw [xp_at, if_pos rfl]; rfl, fun i i0 i1 => by
    have i1 : i < 0 := i1
    omega⟩ h
  have sA : SCm [598, 599, 600, 601, 602, 603, 604, 605, 617, 618, 619, 620] [17, 18, 19, 26, 47, 48] H H1 := SCm_trans (SCm_sub sc (by decide) (by decide)) (SCm_trans (SCm_fld (by decide)) (SCm_sub b1 (by decide) (by decide)))
  have c3 : H1 603 = Hl 603 := (b1.1 603 (by decide) (by decide)).trans (xp_ne (by decide))
  have c4 : H1 604 = Hl 604 := (b1.1 604 (by decide) (by decide)).trans (xp_ne (by decide))
  have c91 : H1 591 = H 591 := (b1.1 591 (by decide) (by decide)).trans e91'
  by_cases q : 1 ≤ (dbZ (H 591)).1 ∧ (dbZ (H 591)).1 ≤ 5
  · have v0 := q.1
    have v1 := q.2
    have v2 : ¬ 5 < (dbZ (H 591)).1 := by omega
    have v3 : ¬ (dbZ (H 591)).1 < 1 := by omega
    have h := xw_top (hd := [11, 61, 79, 105, 115, 185, 223, 249, 325]) 26 xD6_ok xc_X12_laySettled xa_X12_laySettled (t := 61) rfl h
    simp (maxDischargeDepth := 12) -implicitDefEqProofs [vb_X12_laySettled_0, vb_X12_laySettled_11, vb_X12_laySettled_35, vb_X12_laySettled_55, vb_X12_laySettled_61, vb_X12_laySettled_75, vb_X12_laySettled_79, vb_X12_laySettled_103, vb_X12_laySettled_105, vb_X12_laySettled_115, vb_X12_laySettled_157, vb_X12_laySettled_158, vb_X12_laySettled_165, vb_X12_laySettled_171, vb_X12_laySettled_185, vb_X12_laySettled_214, vb_X12_laySettled_223, vb_X12_laySettled_249, vb_X12_laySettled_268, vb_X12_laySettled_301, vb_X12_laySettled_317, vb_X12_laySettled_325, vb_X12_laySettled_354, vb_X12_laySettled_357, xI_0, xI_1, xI_3, xI_6, xI_7, xI_8, xI_14, xI_16, xI_33, xI_36, xI_37, xI_38, xI_39, xI_43, xI_44, xI_46, xI_49, xI_50, xI_51, xI_52, xI_57, xI_58, xI_60, xI_61, xI_62, xw_X12_laySettled_0, xw_X12_laySettled_11, xw_X12_laySettled_35, xw_X12_laySettled_55, xw_X12_laySettled_61, xw_X12_laySettled_75, xw_X12_laySettled_79, xw_X12_laySettled_103, xw_X12_laySettled_105, xw_X12_laySettled_115, xw_X12_laySettled_157, xw_X12_laySettled_158, xw_X12_laySettled_165, xw_X12_laySettled_171, xw_X12_laySettled_185, xw_X12_laySettled_214, xw_X12_laySettled_223, xw_X12_laySettled_249, xw_X12_laySettled_268, xw_X12_laySettled_301, xw_X12_laySettled_317, xw_X12_laySettled_325, xw_X12_laySettled_354, xw_X12_laySettled_357, zw_lit, xB_c, xB_s, xB_n, i1_c, j2_c, k1_c, jJ_e, xlg, xls, xla, xpd, ppush, zw_m1, zw_m2, zw_m3, gf_12_0, gf_12_20, gf_12_44, gf_12_45, gf_12_46, gf_12_47, gf_12_48, gf_12_49, pf_12_47, pf_12_48, tg_12_0, tg_12_20, tg_12_44, tg_12_45, tg_12_46, tg_12_47, tg_12_48, tg_12_49, gv_590_0, gv_590_20, gv_590_44, gv_590_45, gv_590_46, gv_590_47, gv_590_48, gv_590_49, xD1, xD2, xD3, xD4, xD5, xD6, xb1_0, b2, v0, v1, v2, v3] at h
    obtain ⟨m2, hm2, h⟩ := h
    have h5 : dN (H 591) ≤ 5 := by unfold dN; omega
    have ed : ((dN (H 591) : Nat) : Int) = (dbZ (H 591)).1 := by unfold dN; omega
    have di := dN_in ok.1 h5
    have nb := db_bills ok.1 (di.2 0 (by decide) (by omega))
    obtain ⟨H2, d1, m3, hm3, h⟩ := lp_so79 (H 591) ok H1 c91 (fun x x0 x1 => by rw [c3]; exact ld.1.2.2.1 x x0 x1) (fun x x0 x1 => by rw [c4]; exact ld.1.2.2.2 x x0 x1) _ _ m2 0 H1 (by decide) a0.1 SCm_refl h
    have d91 : H2 591 = H 591 := (d1.1 591 (by decide) (by decide)).trans c91
    obtain ⟨H3, y', z', f1, f2, m4, hm4, h⟩ := (lp_sn105 (H 591) ok h5 H2 d91 (by rw [d1.2 47 (by decide), b2, ed]) (fun i i0 i1 => by rw [d1.1 617 (by decide) (by decide)]; exact b3 i i0 (by omega)) _ m3).1 0 _ _ H2 (by decide) (by omega) SCm_refl (fun u b u0 u1 => by omega) h
    have fC : SCm [598, 599, 600, 601, 602, 603, 604, 605, 617, 618, 619, 620] [17, 18, 19, 26, 47, 48] H (pup (pup H3 590 48 (-1)) 618 0 (-1)) := SCm_trans sA (SCm_trans (SCm_sub d1 (by decide) (by decide)) (SCm_trans (SCm_sub f1 (by decide) (by decide)) (SCm_trans (SCm_fld (by decide)) (SCm_cell (by decide) (by decide)))))
    have fx : StX (H 591) H3 := ⟨(f1.1 591 (by decide) (by decide)).trans d91, by rw [f1.2 47 (by decide), d1.2 47 (by decide), b2, ed], fun i i0 i1 => by rw [f1.1 617 (by decide) (by decide), d1.1 617 (by decide) (by decide)]; exact b3 i i0 (by omega), f2⟩
    have e0 : ∀ (b sd : Int), exS (H 591) (dL (H 591)) (fun _ => -1) b sd 0 = 0 := fun _ _ => rfl
    have e1 : ∀ b, 0 ≤ b → ∀ sd, exS (H 591) (dL (H 591)) (fun _ => -1) b sd 1 = 0 := fun b b0 sd => exS_no (j := 0) (σ := fun _ => -1) (Int.le_refl _) (show ¬ (-1 : Int) = b by omega)
    have t1 : toS (H 591) (dL (H 591)) (fun _ => -1) 1 = fdS (fun b => coS (H 591) b 0 0) (H 591 0).toNat 0 0 := toS_no (j := 0) (σ := fun _ => -1) (Int.le_refl _) rfl
    have g3 : H3 603 = Hl 603 := by rw [f1.1 603 (by decide) (by decide), d1.1 603 (by decide) (by decide), c3]
    have g4 : H3 604 = Hl 604 := by rw [f1.1 604 (by decide) (by decide), d1.1 604 (by decide) (by decide), c4]
    obtain ⟨H4, σ, k1, k2⟩ := lp_sd185 (H 591) ok h5 nb H m4 0 _ _ _ (fun _ => -1) _ (by decide) (by omega) t1.symm ⟨fC, StX_SC fx (SCm_trans (SCm_fld (cs := [618]) (fs := [48]) (by decide)) (SCm_cell (by decide) (by decide))) (by decide) (by decide), fun i i0 i1 => by rw [xp_at, if_pos (by omega)], fun b b0 b1 => by
      rw [xp_ne (by decide), xp_ne (by decide), xp_ne (by decide), xp_ne (by decide), g3, g4]
      have e2 : (0 + 1 : Int).toNat = 1 := rfl
      rw [e2, e1 b b0 0, e1 b b0 1, Int.add_zero, Int.add_zero]
      exact ⟨ld.1.2.2.1 b b0 (by omega), ld.1.2.2.2 b b0 (by omega)⟩, fun i i0 i1 => by omega, fun _ => Or.inl rfl, Or.inl ⟨by rw [xp_ne (by decide), xp_at, if_pos rfl], fun σ hs hD => by
      have s0 := hs 0 (by decide) (by omega)
      rcases hD with ⟨i, i0, i1, _, i3⟩ | w
      · have e : i = 0 := by omega
        rw [e] at i3
        have i3 : σ 0 < -1 := i3
        omega
      · have w := w 0 (by decide) (by decide)
        have w : σ 0 = -1 := w
        omega⟩⟩ h
    exact ⟨_, H4, k2, k1.1, Or.inr ⟨q, rfl, σ, k1⟩⟩
  · by_cases v0 : 1 ≤ (dbZ (H 591)).1
    · have v1 : ¬ (dbZ (H 591)).1 ≤ 5 := by omega
      have v2 : 5 < (dbZ (H 591)).1 := by omega
      have h := xw_top (hd := [11, 61, 79, 105, 115, 185, 223, 249, 325]) 26 xD6_ok xc_X12_laySettled xa_X12_laySettled (t := 61) rfl h
      simp (maxDischargeDepth := 12) -implicitDefEqProofs [vb_X12_laySettled_0, vb_X12_laySettled_11, vb_X12_laySettled_35, vb_X12_laySettled_55, vb_X12_laySettled_61, vb_X12_laySettled_75, vb_X12_laySettled_79, vb_X12_laySettled_103, vb_X12_laySettled_105, vb_X12_laySettled_115, vb_X12_laySettled_157, vb_X12_laySettled_158, vb_X12_laySettled_165, vb_X12_laySettled_171, vb_X12_laySettled_185, vb_X12_laySettled_214, vb_X12_laySettled_223, vb_X12_laySettled_249, vb_X12_laySettled_268, vb_X12_laySettled_301, vb_X12_laySettled_317, vb_X12_laySettled_325, vb_X12_laySettled_354, vb_X12_laySettled_357, xI_0, xI_1, xI_3, xI_6, xI_7, xI_8, xI_14, xI_16, xI_33, xI_36, xI_37, xI_38, xI_39, xI_43, xI_44, xI_46, xI_49, xI_50, xI_51, xI_52, xI_57, xI_58, xI_60, xI_61, xI_62, xw_X12_laySettled_0, xw_X12_laySettled_11, xw_X12_laySettled_35, xw_X12_laySettled_55, xw_X12_laySettled_61, xw_X12_laySettled_75, xw_X12_laySettled_79, xw_X12_laySettled_103, xw_X12_laySettled_105, xw_X12_laySettled_115, xw_X12_laySettled_157, xw_X12_laySettled_158, xw_X12_laySettled_165, xw_X12_laySettled_171, xw_X12_laySettled_185, xw_X12_laySettled_214, xw_X12_laySettled_223, xw_X12_laySettled_249, xw_X12_laySettled_268, xw_X12_laySettled_301, xw_X12_laySettled_317, xw_X12_laySettled_325, xw_X12_laySettled_354, xw_X12_laySettled_357, zw_lit, xB_c, xB_s, xB_n, i1_c, j2_c, k1_c, jJ_e, xlg, xls, xla, xpd, ppush, zw_m1, zw_m2, zw_m3, gf_12_0, gf_12_20, gf_12_44, gf_12_45, gf_12_46, gf_12_47, gf_12_48, gf_12_49, pf_12_47, pf_12_48, tg_12_0, tg_12_20, tg_12_44, tg_12_45, tg_12_46, tg_12_47, tg_12_48, tg_12_49, gv_590_0, gv_590_20, gv_590_44, gv_590_45, gv_590_46, gv_590_47, gv_590_48, gv_590_49, xD1, xD2, xD3, xD4, xD5, xD6, xb1_0, b2, v0, v1, v2] at h
      exact ⟨_, H1, h, sA, Or.inl ⟨q, rfl⟩⟩
    · have v2 : (dbZ (H 591)).1 < 1 := by omega
      have h := xw_top (hd := [11, 61, 79, 105, 115, 185, 223, 249, 325]) 26 xD6_ok xc_X12_laySettled xa_X12_laySettled (t := 61) rfl h
      simp (maxDischargeDepth := 12) -implicitDefEqProofs [vb_X12_laySettled_0, vb_X12_laySettled_11, vb_X12_laySettled_35, vb_X12_laySettled_55, vb_X12_laySettled_61, vb_X12_laySettled_75, vb_X12_laySettled_79, vb_X12_laySettled_103, vb_X12_laySettled_105, vb_X12_laySettled_115, vb_X12_laySettled_157, vb_X12_laySettled_158, vb_X12_laySettled_165, vb_X12_laySettled_171, vb_X12_laySettled_185, vb_X12_laySettled_214, vb_X12_laySettled_223, vb_X12_laySettled_249, vb_X12_laySettled_268, vb_X12_laySettled_301, vb_X12_laySettled_317, vb_X12_laySettled_325, vb_X12_laySettled_354, vb_X12_laySettled_357, xI_0, xI_1, xI_3, xI_6, xI_7, xI_8, xI_14, xI_16, xI_33, xI_36, xI_37, xI_38, xI_39, xI_43, xI_44, xI_46, xI_49, xI_50, xI_51, xI_52, xI_57, xI_58, xI_60, xI_61, xI_62, xw_X12_laySettled_0, xw_X12_laySettled_11, xw_X12_laySettled_35, xw_X12_laySettled_55, xw_X12_laySettled_61, xw_X12_laySettled_75, xw_X12_laySettled_79, xw_X12_laySettled_103, xw_X12_laySettled_105, xw_X12_laySettled_115, xw_X12_laySettled_157, xw_X12_laySettled_158, xw_X12_laySettled_165, xw_X12_laySettled_171, xw_X12_laySettled_185, xw_X12_laySettled_214, xw_X12_laySettled_223, xw_X12_laySettled_249, xw_X12_laySettled_268, xw_X12_laySettled_301, xw_X12_laySettled_317, xw_X12_laySettled_325, xw_X12_laySettled_354, xw_X12_laySettled_357, zw_lit, xB_c, xB_s, xB_n, i1_c, j2_c, k1_c, jJ_e, xlg, xls, xla, xpd, ppush, zw_m1, zw_m2, zw_m3, gf_12_0, gf_12_20, gf_12_44, gf_12_45, gf_12_46, gf_12_47, gf_12_48, gf_12_49, pf_12_47, pf_12_48, tg_12_0, tg_12_20, tg_12_44, tg_12_45, tg_12_46, tg_12_47, tg_12_48, tg_12_49, gv_590_0, gv_590_20, gv_590_44, gv_590_45, gv_590_46, gv_590_47, gv_590_48, gv_590_49, xD1, xD2, xD3, xD4, xD5, xD6, xb1_0, b2, v0, v2] at h
      exact ⟨_, H1, h, sA, Or.inl ⟨q, rfl⟩⟩
theorem fnd_no {D τ : Int → Int} {k : Int} : ∀ (n : Nat) (i : Int), (∀ j, i ≤ j → j < i + n → ¬ D j = k) → fnd D τ k n i = -1
  | 0, _, _ => rfl
  | n + 1, i, h => by
    unfold fnd
    rw [if_neg (h i (by omega) (by omega))]
    exact fnd_no n (i + 1) (fun j a b => h j (by omega) (by omega))
theorem lp_ss34 (A σ : Int → Int) (H : PH) (k : Int) (e47 : H 590 47 = (dN A : Int)) (h5 : dN A ≤ 5) (e17 : ∀ i, 0 ≤ i → i < (dN A : Int) → H 617 i = dL A i) (e19 : ∀ i, 0 ≤ i → i < (dN A : Int) → H 619 i = σ i) {E : xE} {res : xR} : ∀ (n : Nat) (i : Int), 0 ≤ i → i ≤ (dN A : Int) → RUN E res n kd_X12_settled (zget kd_X12_settled 34) 34 [590, k, i] [] H → REPR E res (some (0, fnd (dL A) σ k (dN A - i).toNat i)) H := by
  intro n
  induction n using Nat.strongRecOn with
  | _ n ih =>
    intro i i0 i1 h
    by_cases c : i < (dN A : Int)
    · have c' : ¬ (dN A : Int) ≤ i := by omega
      have z1 : zw (i + 1) = i + 1 := zw_lit (by omega) (by omega)
      have ed := e17 i i0 c
      have es := e19 i i0 c
      rw [show (dN A - i).toNat = (dN A - (i + 1)).toNat + 1 by omega]
      unfold fnd
      by_cases e : dL A i = k
      · have e' : (dL A i = k) = True := eq_true e
        rw [if_pos e]
        have h := xw_top (hd := [34]) 10 xD6_ok xc_X12_settled xa_X12_settled (t := 34) rfl h
        simp (maxDischargeDepth := 12) -implicitDefEqProofs [vb_X12_settled_0, vb_X12_settled_13, vb_X12_settled_20, vb_X12_settled_22, vb_X12_settled_32, vb_X12_settled_34, vb_X12_settled_59, vb_X12_settled_65, xI_0, xI_1, xI_3, xI_6, xI_7, xI_36, xI_37, xI_38, xI_43, xI_44, xI_46, xI_49, xI_51, xI_61, xI_62, xw_X12_settled_0, xw_X12_settled_13, xw_X12_settled_20, xw_X12_settled_22, xw_X12_settled_32, xw_X12_settled_34, xw_X12_settled_59, xw_X12_settled_65, zw_lit, xB_c, xB_s, xB_n, i1_c, j2_c, k1_c, jJ_e, xlg, xls, xla, xpd, ppush, zw_m1, zw_m2, zw_m3, gf_12_44, gf_12_46, gf_12_47, gf_12_48, tg_12_44, tg_12_46, tg_12_47, tg_12_48, gv_590_44, gv_590_46, gv_590_47, gv_590_48, xD1, xD2, xD3, xD4, xD5, xD6, xb1_0, e47, c, c', ed, e', es] at h
        exact h
      · rw [if_neg e]
        have h := xw_top (hd := [34]) 10 xD6_ok xc_X12_settled xa_X12_settled (t := 34) rfl h
        simp (maxDischargeDepth := 12) -implicitDefEqProofs [vb_X12_settled_0, vb_X12_settled_13, vb_X12_settled_20, vb_X12_settled_22, vb_X12_settled_32, vb_X12_settled_34, vb_X12_settled_59, vb_X12_settled_65, xI_0, xI_1, xI_3, xI_6, xI_7, xI_36, xI_37, xI_38, xI_43, xI_44, xI_46, xI_49, xI_51, xI_61, xI_62, xw_X12_settled_0, xw_X12_settled_13, xw_X12_settled_20, xw_X12_settled_22, xw_X12_settled_32, xw_X12_settled_34, xw_X12_settled_59, xw_X12_settled_65, zw_lit, xB_c, xB_s, xB_n, i1_c, j2_c, k1_c, jJ_e, xlg, xls, xla, xpd, ppush, zw_m1, zw_m2, zw_m3, gf_12_44, gf_12_46, gf_12_47, gf_12_48, tg_12_44, tg_12_46, tg_12_47, tg_12_48, gv_590_44, gv_590_46, gv_590_47, gv_590_48, xD1, xD2, xD3, xD4, xD5, xD6, xb1_0, e47, c, c', ed, e, z1] at h
        obtain ⟨m, hm, h⟩ := h
        exact ih m hm (i + 1) (by omega) (by omega) h
    · have c' : (dN A : Int) ≤ i := by omega
      rw [show (dN A - i).toNat = 0 by omega]
      have h := xw_top (hd := [34]) 10 xD6_ok xc_X12_settled xa_X12_settled (t := 34) rfl h
      simp (maxDischargeDepth := 12) -implicitDefEqProofs [vb_X12_settled_0, vb_X12_settled_13, vb_X12_settled_20, vb_X12_settled_22, vb_X12_settled_32, vb_X12_settled_34, vb_X12_settled_59, vb_X12_settled_65, xI_0, xI_1, xI_3, xI_6, xI_7, xI_36, xI_37, xI_38, xI_43, xI_44, xI_46, xI_49, xI_51, xI_61, xI_62, xw_X12_settled_0, xw_X12_settled_13, xw_X12_settled_20, xw_X12_settled_22, xw_X12_settled_32, xw_X12_settled_34, xw_X12_settled_59, xw_X12_settled_65, zw_lit, xB_c, xB_s, xB_n, i1_c, j2_c, k1_c, jJ_e, xlg, xls, xla, xpd, ppush, zw_m1, zw_m2, zw_m3, gf_12_44, gf_12_46, gf_12_47, gf_12_48, tg_12_44, tg_12_46, tg_12_47, tg_12_48, gv_590_44, gv_590_46, gv_590_47, gv_590_48, xD1, xD2, xD3, xD4, xD5, xD6, xb1_0, e47, c, c'] at h
      exact h
set_option maxRecDepth 100000 in
theorem sp_m_settled (k : Int) (H : PH) (ok : OKR (H 591)) : SPEC 263 [(2, 590), (0, k)] H (fun r H' => (∃ v, r = some (0, v) ∧ STa (H 591) k v) ∧ MQs H H') := by
  intro E n res h
  have a2 := ok.1.2.2.1
  have z2 : zw (H 591 2 - 1) = H 591 2 - 1 := zw_lit (by omega) (by omega)
  have rest : ∀ (K : Option pv → PH → Prop), xC E n 261 [(2, 590)] H K → (∀ H', MQs H H' → (¬ (1 ≤ (dbZ (H 591)).1 ∧ (dbZ (H 591)).1 ≤ 5)) → K (some (0, 0)) H' → REPR E res (some (0, -1)) H') → (∀ H' σ, MQs H H' → FnX (H 591) H H' σ → (1 ≤ (dbZ (H 591)).1 ∧ (dbZ (H 591)).1 ≤ 5) → K (some (0, 1)) H' → REPR E res (some (0, if k = -1 then toS (H 591) (dL (H 591)) σ (dN (H 591)) else fnd (dL (H 591)) σ k (dN (H 591)) 0)) H') → ∃ r H', REPR E res r H' ∧ (∃ v, r = some (0, v) ∧ STa (H 591) k v) ∧ MQs H H' := by
    intro K g k0 k1
    obtain ⟨r, H1, ⟨sc, p⟩, g⟩ := xc_use g (sp_m_laySettled H ok)
    have mq : MQs H H1 := MQs_SC sc (by decide) (by decide)
    rcases p with ⟨c, rfl⟩ | ⟨c, rfl, σ, f⟩
    · exact ⟨_, H1, k0 H1 mq c g, ⟨_, rfl, by unfold STa; rw [if_neg c]⟩, mq⟩
    · exact ⟨_, H1, k1 H1 σ mq f c g, ⟨_, rfl, by unfold STa; rw [if_pos c]; exact ⟨σ, f.2.2.1, rfl⟩⟩, mq⟩
  by_cases km : k = -1
  · have km' : (k = -1) = True := eq_true km
    have h := call_runP 3 vm_X12_settled h
    have h := xw_top (hd := [34]) 10 xD6_ok xc_X12_settled xa_X12_settled (t := 0) rfl h
    simp (maxDischargeDepth := 12) -implicitDefEqProofs [vb_X12_settled_0, vb_X12_settled_13, vb_X12_settled_20, vb_X12_settled_22, vb_X12_settled_32, vb_X12_settled_34, vb_X12_settled_59, vb_X12_settled_65, xI_0, xI_1, xI_3, xI_6, xI_7, xI_36, xI_37, xI_38, xI_43, xI_44, xI_46, xI_49, xI_51, xI_61, xI_62, xw_X12_settled_0, xw_X12_settled_13, xw_X12_settled_20, xw_X12_settled_22, xw_X12_settled_32, xw_X12_settled_34, xw_X12_settled_59, xw_X12_settled_65, zw_lit, xB_c, xB_s, xB_n, i1_c, j2_c, k1_c, jJ_e, xlg, xls, xla, xpd, ppush, zw_m1, zw_m2, zw_m3, gf_12_44, gf_12_46, gf_12_47, gf_12_48, tg_12_44, tg_12_46, tg_12_47, tg_12_48, gv_590_44, gv_590_46, gv_590_47, gv_590_48, xD1, xD2, xD3, xD4, xD5, xD6, xb1_0, km] at h
    refine rest _ h (fun H' mq c g => ?_) (fun H' σ mq f c g => ?_)
    · simp (maxDischargeDepth := 12) -implicitDefEqProofs [vb_X12_settled_0, vb_X12_settled_13, vb_X12_settled_20, vb_X12_settled_22, vb_X12_settled_32, vb_X12_settled_34, vb_X12_settled_59, vb_X12_settled_65, xI_0, xI_1, xI_3, xI_6, xI_7, xI_36, xI_37, xI_38, xI_43, xI_44, xI_46, xI_49, xI_51, xI_61, xI_62, xw_X12_settled_0, xw_X12_settled_13, xw_X12_settled_20, xw_X12_settled_22, xw_X12_settled_32, xw_X12_settled_34, xw_X12_settled_59, xw_X12_settled_65, zw_lit, xB_c, xB_s, xB_n, i1_c, j2_c, k1_c, jJ_e, xlg, xls, xla, xpd, ppush, zw_m1, zw_m2, zw_m3, gf_12_44, gf_12_46, gf_12_47, gf_12_48, tg_12_44, tg_12_46, tg_12_47, tg_12_48, gv_590_44, gv_590_46, gv_590_47, gv_590_48, xD1, xD2, xD3, xD4, xD5, xD6, xb1_0, km] at g
      exact g
    · have e48 := f.2.2.2.1
      simp (maxDischargeDepth := 12) -implicitDefEqProofs [vb_X12_settled_0, vb_X12_settled_13, vb_X12_settled_20, vb_X12_settled_22, vb_X12_settled_32, vb_X12_settled_34, vb_X12_settled_59, vb_X12_settled_65, xI_0, xI_1, xI_3, xI_6, xI_7, xI_36, xI_37, xI_38, xI_43, xI_44, xI_46, xI_49, xI_51, xI_61, xI_62, xw_X12_settled_0, xw_X12_settled_13, xw_X12_settled_20, xw_X12_settled_22, xw_X12_settled_32, xw_X12_settled_34, xw_X12_settled_59, xw_X12_settled_65, zw_lit, xB_c, xB_s, xB_n, i1_c, j2_c, k1_c, jJ_e, xlg, xls, xla, xpd, ppush, zw_m1, zw_m2, zw_m3, gf_12_44, gf_12_46, gf_12_47, gf_12_48, tg_12_44, tg_12_46, tg_12_47, tg_12_48, gv_590_44, gv_590_46, gv_590_47, gv_590_48, xD1, xD2, xD3, xD4, xD5, xD6, xb1_0, km, e48] at g
      rw [if_pos km]
      exact g
  · by_cases kl : 0 ≤ k ∧ k ≤ H 591 2 - 1
    · have k0 := kl.1
      have k1 := kl.2
      have k2 : ¬ k < 0 := by omega
      have k3 : ¬ H 591 2 - 1 < k := by omega
      have h := call_runP 3 vm_X12_settled h
      have h := xw_top (hd := [34]) 10 xD6_ok xc_X12_settled xa_X12_settled (t := 0) rfl h
      simp (maxDischargeDepth := 12) -implicitDefEqProofs [vb_X12_settled_0, vb_X12_settled_13, vb_X12_settled_20, vb_X12_settled_22, vb_X12_settled_32, vb_X12_settled_34, vb_X12_settled_59, vb_X12_settled_65, xI_0, xI_1, xI_3, xI_6, xI_7, xI_36, xI_37, xI_38, xI_43, xI_44, xI_46, xI_49, xI_51, xI_61, xI_62, xw_X12_settled_0, xw_X12_settled_13, xw_X12_settled_20, xw_X12_settled_22, xw_X12_settled_32, xw_X12_settled_34, xw_X12_settled_59, xw_X12_settled_65, zw_lit, xB_c, xB_s, xB_n, i1_c, j2_c, k1_c, jJ_e, xlg, xls, xla, xpd, ppush, zw_m1, zw_m2, zw_m3, gf_12_44, gf_12_46, gf_12_47, gf_12_48, tg_12_44, tg_12_46, tg_12_47, tg_12_48, gv_590_44, gv_590_46, gv_590_47, gv_590_48, xD1, xD2, xD3, xD4, xD5, xD6, xb1_0, km, z2, k0, k1, k2, k3] at h
      refine rest _ h (fun H' mq c g => ?_) (fun H' σ mq f c g => ?_)
      · simp (maxDischargeDepth := 12) -implicitDefEqProofs [vb_X12_settled_0, vb_X12_settled_13, vb_X12_settled_20, vb_X12_settled_22, vb_X12_settled_32, vb_X12_settled_34, vb_X12_settled_59, vb_X12_settled_65, xI_0, xI_1, xI_3, xI_6, xI_7, xI_36, xI_37, xI_38, xI_43, xI_44, xI_46, xI_49, xI_51, xI_61, xI_62, xw_X12_settled_0, xw_X12_settled_13, xw_X12_settled_20, xw_X12_settled_22, xw_X12_settled_32, xw_X12_settled_34, xw_X12_settled_59, xw_X12_settled_65, zw_lit, xB_c, xB_s, xB_n, i1_c, j2_c, k1_c, jJ_e, xlg, xls, xla, xpd, ppush, zw_m1, zw_m2, zw_m3, gf_12_44, gf_12_46, gf_12_47, gf_12_48, tg_12_44, tg_12_46, tg_12_47, tg_12_48, gv_590_44, gv_590_46, gv_590_47, gv_590_48, xD1, xD2, xD3, xD4, xD5, xD6, xb1_0, km] at g
        exact g
      · simp (maxDischargeDepth := 12) -implicitDefEqProofs [vb_X12_settled_0, vb_X12_settled_13, vb_X12_settled_20, vb_X12_settled_22, vb_X12_settled_32, vb_X12_settled_34, vb_X12_settled_59, vb_X12_settled_65, xI_0, xI_1, xI_3, xI_6, xI_7, xI_36, xI_37, xI_38, xI_43, xI_44, xI_46, xI_49, xI_51, xI_61, xI_62, xw_X12_settled_0, xw_X12_settled_13, xw_X12_settled_20, xw_X12_settled_22, xw_X12_settled_32, xw_X12_settled_34, xw_X12_settled_59, xw_X12_settled_65, zw_lit, xB_c, xB_s, xB_n, i1_c, j2_c, k1_c, jJ_e, xlg, xls, xla, xpd, ppush, zw_m1, zw_m2, zw_m3, gf_12_44, gf_12_46, gf_12_47, gf_12_48, tg_12_44, tg_12_46, tg_12_47, tg_12_48, gv_590_44, gv_590_46, gv_590_47, gv_590_48, xD1, xD2, xD3, xD4, xD5, xD6, xb1_0, km] at g
        obtain ⟨m, hm, g⟩ := g
        have h5 : dN (H 591) ≤ 5 := by unfold dN; omega
        have g := lp_ss34 (H 591) σ H' k f.2.1.2.1 h5 f.2.1.2.2.1 f.2.2.2.2 m 0 (by decide) (by omega) g
        rw [Int.sub_zero, Int.toNat_natCast] at g
        rw [if_neg km]
        exact g
    · have fin : REPR E res (some (0, -1)) H := by
        by_cases k0 : 0 ≤ k
        · have k1 : ¬ k ≤ H 591 2 - 1 := by omega
          have k3 : H 591 2 - 1 < k := by omega
          have h := call_runP 3 vm_X12_settled h
          have h := xw_top (hd := [34]) 10 xD6_ok xc_X12_settled xa_X12_settled (t := 0) rfl h
          simp (maxDischargeDepth := 12) -implicitDefEqProofs [vb_X12_settled_0, vb_X12_settled_13, vb_X12_settled_20, vb_X12_settled_22, vb_X12_settled_32, vb_X12_settled_34, vb_X12_settled_59, vb_X12_settled_65, xI_0, xI_1, xI_3, xI_6, xI_7, xI_36, xI_37, xI_38, xI_43, xI_44, xI_46, xI_49, xI_51, xI_61, xI_62, xw_X12_settled_0, xw_X12_settled_13, xw_X12_settled_20, xw_X12_settled_22, xw_X12_settled_32, xw_X12_settled_34, xw_X12_settled_59, xw_X12_settled_65, zw_lit, xB_c, xB_s, xB_n, i1_c, j2_c, k1_c, jJ_e, xlg, xls, xla, xpd, ppush, zw_m1, zw_m2, zw_m3, gf_12_44, gf_12_46, gf_12_47, gf_12_48, tg_12_44, tg_12_46, tg_12_47, tg_12_48, gv_590_44, gv_590_46, gv_590_47, gv_590_48, xD1, xD2, xD3, xD4, xD5, xD6, xb1_0, km, z2, k0, k1, k3] at h
          exact h
        · have k2 : k < 0 := by omega
          have h := call_runP 3 vm_X12_settled h
          have h := xw_top (hd := [34]) 10 xD6_ok xc_X12_settled xa_X12_settled (t := 0) rfl h
          simp (maxDischargeDepth := 12) -implicitDefEqProofs [vb_X12_settled_0, vb_X12_settled_13, vb_X12_settled_20, vb_X12_settled_22, vb_X12_settled_32, vb_X12_settled_34, vb_X12_settled_59, vb_X12_settled_65, xI_0, xI_1, xI_3, xI_6, xI_7, xI_36, xI_37, xI_38, xI_43, xI_44, xI_46, xI_49, xI_51, xI_61, xI_62, xw_X12_settled_0, xw_X12_settled_13, xw_X12_settled_20, xw_X12_settled_22, xw_X12_settled_32, xw_X12_settled_34, xw_X12_settled_59, xw_X12_settled_65, zw_lit, xB_c, xB_s, xB_n, i1_c, j2_c, k1_c, jJ_e, xlg, xls, xla, xpd, ppush, zw_m1, zw_m2, zw_m3, gf_12_44, gf_12_46, gf_12_47, gf_12_48, tg_12_44, tg_12_46, tg_12_47, tg_12_48, gv_590_44, gv_590_46, gv_590_47, gv_590_48, xD1, xD2, xD3, xD4, xD5, xD6, xb1_0, km, z2, k0, k2] at h
          exact h
      refine ⟨_, H, fin, ⟨_, rfl, ?_⟩, MQs_refl⟩
      unfold STa
      by_cases c : 1 ≤ (dbZ (H 591)).1 ∧ (dbZ (H 591)).1 ≤ 5
      · rw [if_pos c]
        have h5 : dN (H 591) ≤ 5 := by unfold dN; omega
        have ed : ((dN (H 591) : Nat) : Int) = (dbZ (H 591)).1 := by unfold dN; omega
        have di := dN_in ok.1 h5
        have nb := db_bills ok.1 (di.2 0 (by decide) (by omega))
        obtain ⟨τ, hτ⟩ := rsp_ex (A := H 591) (D := dL (H 591)) (d := (dN (H 591) : Int)) nb
        obtain ⟨σ0, f⟩ := fst1_ex ok.1 ok.2.2.2 (by omega) di.1 hτ
        refine ⟨σ0, f, ?_⟩
        rw [if_neg km, fnd_no _ _ (fun j j0 j1 => by
          have := di.1 j j0 (by omega)
          omega)]
      · rw [if_neg c]
theorem pr_settled (k : Int) (H : PH) (h : REL H) : PAIR 139 [(2, 0), (0, k)] 263 [(2, 590), (0, k)] H := by
  obtain ⟨⟨S, n, rl⟩, tp⟩ := h
  intro E N res hh
  obtain ⟨r, H1, g, ⟨v, rfl, st⟩, cq⟩ := sp_c_settled k S n H rl.2.1 rl.2.2.1 E N res hh
  refine ⟨_, H1, g, ⟨_, rfl⟩, ?_⟩
  obtain ⟨x1, x2, x3, x4, x5⟩ := RL_mid rl cq.2.2.1
  intro E N res hh
  obtain ⟨r', H2, g', ⟨w, rfl, sw⟩, mq⟩ := sp_m_settled k H1 x4 E N res hh
  rw [x1] at sw
  exact ⟨_, H2, g', by rw [STa_uniq sw st], REL_MQ (REL_CQ rl tp cq) mq⟩
