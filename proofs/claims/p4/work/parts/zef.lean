theorem gf_1_15 : gfOK 1 15 = true := by decide +kernel
theorem gf_1_16 : gfOK 1 16 = true := by decide +kernel
theorem gf_12_37 : gfOK 12 37 = true := by decide +kernel
theorem gf_12_38 : gfOK 12 38 = true := by decide +kernel
theorem gf_12_41 : gfOK 12 41 = true := by decide +kernel
theorem gf_12_42 : gfOK 12 42 = true := by decide +kernel
theorem pf_12_41 : pfOK 12 41 = true := by decide +kernel
theorem pf_12_42 : pfOK 12 42 = true := by decide +kernel
def xm_X1_setAgainst : List xbT := [(0, vb_X1_setAgainst_0, some 11), (11, vb_X1_setAgainst_11, some 63), (63, vb_X1_setAgainst_63, some 69), (69, vb_X1_setAgainst_69, some 71), (71, vb_X1_setAgainst_71, some 100), (100, vb_X1_setAgainst_100, some 106), (106, vb_X1_setAgainst_106, none)]
theorem xc_X1_setAgainst : xOK kd_X1_setAgainst xm_X1_setAgainst := ⟨ve_X1_setAgainst_0, ve_X1_setAgainst_11, ve_X1_setAgainst_63, ve_X1_setAgainst_69, ve_X1_setAgainst_71, ve_X1_setAgainst_100, ve_X1_setAgainst_106, trivial⟩
theorem xa_X1_setAgainst : xm_X1_setAgainst.all (fun q => aOKb q.2.1 && !q.2.1.isEmpty) = true := by decide +kernel
theorem xw_X1_setAgainst_0 {E : xE} {res : xR} {N : Nat} {hd : List Nat} {C : xCT} {k : Nat} {L : List Int} {st : List pv} {H : PH} : xW E res N kd_X1_setAgainst xm_X1_setAgainst hd C (k + 1) 0 L st H = xB (fun t L st H => if t ∈ hd then xJ E res N kd_X1_setAgainst t L st H else xW E res N kd_X1_setAgainst xm_X1_setAgainst hd C k t L st H) (REPR E res) C (some 11) vb_X1_setAgainst_0 0 L st H := Eq.trans rfl rfl
theorem xw_X1_setAgainst_11 {E : xE} {res : xR} {N : Nat} {hd : List Nat} {C : xCT} {k : Nat} {L : List Int} {st : List pv} {H : PH} : xW E res N kd_X1_setAgainst xm_X1_setAgainst hd C (k + 1) 11 L st H = xB (fun t L st H => if t ∈ hd then xJ E res N kd_X1_setAgainst t L st H else xW E res N kd_X1_setAgainst xm_X1_setAgainst hd C k t L st H) (REPR E res) C (some 63) vb_X1_setAgainst_11 11 L st H := Eq.trans rfl rfl
theorem xw_X1_setAgainst_63 {E : xE} {res : xR} {N : Nat} {hd : List Nat} {C : xCT} {k : Nat} {L : List Int} {st : List pv} {H : PH} : xW E res N kd_X1_setAgainst xm_X1_setAgainst hd C (k + 1) 63 L st H = xB (fun t L st H => if t ∈ hd then xJ E res N kd_X1_setAgainst t L st H else xW E res N kd_X1_setAgainst xm_X1_setAgainst hd C k t L st H) (REPR E res) C (some 69) vb_X1_setAgainst_63 63 L st H := Eq.trans rfl rfl
theorem xw_X1_setAgainst_69 {E : xE} {res : xR} {N : Nat} {hd : List Nat} {C : xCT} {k : Nat} {L : List Int} {st : List pv} {H : PH} : xW E res N kd_X1_setAgainst xm_X1_setAgainst hd C (k + 1) 69 L st H = xB (fun t L st H => if t ∈ hd then xJ E res N kd_X1_setAgainst t L st H else xW E res N kd_X1_setAgainst xm_X1_setAgainst hd C k t L st H) (REPR E res) C (some 71) vb_X1_setAgainst_69 69 L st H := Eq.trans rfl rfl
theorem xw_X1_setAgainst_71 {E : xE} {res : xR} {N : Nat} {hd : List Nat} {C : xCT} {k : Nat} {L : List Int} {st : List pv} {H : PH} : xW E res N kd_X1_setAgainst xm_X1_setAgainst hd C (k + 1) 71 L st H = xB (fun t L st H => if t ∈ hd then xJ E res N kd_X1_setAgainst t L st H else xW E res N kd_X1_setAgainst xm_X1_setAgainst hd C k t L st H) (REPR E res) C (some 100) vb_X1_setAgainst_71 71 L st H := Eq.trans rfl rfl
theorem xw_X1_setAgainst_100 {E : xE} {res : xR} {N : Nat} {hd : List Nat} {C : xCT} {k : Nat} {L : List Int} {st : List pv} {H : PH} : xW E res N kd_X1_setAgainst xm_X1_setAgainst hd C (k + 1) 100 L st H = xB (fun t L st H => if t ∈ hd then xJ E res N kd_X1_setAgainst t L st H else xW E res N kd_X1_setAgainst xm_X1_setAgainst hd C k t L st H) (REPR E res) C (some 106) vb_X1_setAgainst_100 100 L st H := Eq.trans rfl rfl
theorem xw_X1_setAgainst_106 {E : xE} {res : xR} {N : Nat} {hd : List Nat} {C : xCT} {k : Nat} {L : List Int} {st : List pv} {H : PH} : xW E res N kd_X1_setAgainst xm_X1_setAgainst hd C (k + 1) 106 L st H = xB (fun t L st H => if t ∈ hd then xJ E res N kd_X1_setAgainst t L st H else xW E res N kd_X1_setAgainst xm_X1_setAgainst hd C k t L st H) (REPR E res) C (none) vb_X1_setAgainst_106 106 L st H := Eq.trans rfl rfl
def xm_X1_setAgainstShore : List xbT := [(0, vb_X1_setAgainstShore_0, some 22), (22, vb_X1_setAgainstShore_22, some 125), (125, vb_X1_setAgainstShore_125, some 157), (157, vb_X1_setAgainstShore_157, none)]
theorem xc_X1_setAgainstShore : xOK kd_X1_setAgainstShore xm_X1_setAgainstShore := ⟨ve_X1_setAgainstShore_0, ve_X1_setAgainstShore_22, ve_X1_setAgainstShore_125, ve_X1_setAgainstShore_157, trivial⟩
theorem xa_X1_setAgainstShore : xm_X1_setAgainstShore.all (fun q => aOKb q.2.1 && !q.2.1.isEmpty) = true := by decide +kernel
theorem xw_X1_setAgainstShore_0 {E : xE} {res : xR} {N : Nat} {hd : List Nat} {C : xCT} {k : Nat} {L : List Int} {st : List pv} {H : PH} : xW E res N kd_X1_setAgainstShore xm_X1_setAgainstShore hd C (k + 1) 0 L st H = xB (fun t L st H => if t ∈ hd then xJ E res N kd_X1_setAgainstShore t L st H else xW E res N kd_X1_setAgainstShore xm_X1_setAgainstShore hd C k t L st H) (REPR E res) C (some 22) vb_X1_setAgainstShore_0 0 L st H := Eq.trans rfl rfl
theorem xw_X1_setAgainstShore_22 {E : xE} {res : xR} {N : Nat} {hd : List Nat} {C : xCT} {k : Nat} {L : List Int} {st : List pv} {H : PH} : xW E res N kd_X1_setAgainstShore xm_X1_setAgainstShore hd C (k + 1) 22 L st H = xB (fun t L st H => if t ∈ hd then xJ E res N kd_X1_setAgainstShore t L st H else xW E res N kd_X1_setAgainstShore xm_X1_setAgainstShore hd C k t L st H) (REPR E res) C (some 125) vb_X1_setAgainstShore_22 22 L st H := Eq.trans rfl rfl
theorem xw_X1_setAgainstShore_125 {E : xE} {res : xR} {N : Nat} {hd : List Nat} {C : xCT} {k : Nat} {L : List Int} {st : List pv} {H : PH} : xW E res N kd_X1_setAgainstShore xm_X1_setAgainstShore hd C (k + 1) 125 L st H = xB (fun t L st H => if t ∈ hd then xJ E res N kd_X1_setAgainstShore t L st H else xW E res N kd_X1_setAgainstShore xm_X1_setAgainstShore hd C k t L st H) (REPR E res) C (some 157) vb_X1_setAgainstShore_125 125 L st H := Eq.trans rfl rfl
theorem xw_X1_setAgainstShore_157 {E : xE} {res : xR} {N : Nat} {hd : List Nat} {C : xCT} {k : Nat} {L : List Int} {st : List pv} {H : PH} : xW E res N kd_X1_setAgainstShore xm_X1_setAgainstShore hd C (k + 1) 157 L st H = xB (fun t L st H => if t ∈ hd then xJ E res N kd_X1_setAgainstShore t L st H else xW E res N kd_X1_setAgainstShore xm_X1_setAgainstShore hd C k t L st H) (REPR E res) C (none) vb_X1_setAgainstShore_157 157 L st H := Eq.trans rfl rfl
def xm_X11_against : List xbT := [(0, vb_X11_against_0, some 16), (16, vb_X11_against_16, some 18), (18, vb_X11_against_18, some 36), (36, vb_X11_against_36, some 47), (47, vb_X11_against_47, none)]
theorem xc_X11_against : xOK kd_X11_against xm_X11_against := ⟨ve_X11_against_0, ve_X11_against_16, ve_X11_against_18, ve_X11_against_36, ve_X11_against_47, trivial⟩
theorem xa_X11_against : xm_X11_against.all (fun q => aOKb q.2.1 && !q.2.1.isEmpty) = true := by decide +kernel
theorem xw_X11_against_0 {E : xE} {res : xR} {N : Nat} {hd : List Nat} {C : xCT} {k : Nat} {L : List Int} {st : List pv} {H : PH} : xW E res N kd_X11_against xm_X11_against hd C (k + 1) 0 L st H = xB (fun t L st H => if t ∈ hd then xJ E res N kd_X11_against t L st H else xW E res N kd_X11_against xm_X11_against hd C k t L st H) (REPR E res) C (some 16) vb_X11_against_0 0 L st H := Eq.trans rfl rfl
theorem xw_X11_against_16 {E : xE} {res : xR} {N : Nat} {hd : List Nat} {C : xCT} {k : Nat} {L : List Int} {st : List pv} {H : PH} : xW E res N kd_X11_against xm_X11_against hd C (k + 1) 16 L st H = xB (fun t L st H => if t ∈ hd then xJ E res N kd_X11_against t L st H else xW E res N kd_X11_against xm_X11_against hd C k t L st H) (REPR E res) C (some 18) vb_X11_against_16 16 L st H := Eq.trans rfl rfl
theorem xw_X11_against_18 {E : xE} {res : xR} {N : Nat} {hd : List Nat} {C : xCT} {k : Nat} {L : List Int} {st : List pv} {H : PH} : xW E res N kd_X11_against xm_X11_against hd C (k + 1) 18 L st H = xB (fun t L st H => if t ∈ hd then xJ E res N kd_X11_against t L st H else xW E res N kd_X11_against xm_X11_against hd C k t L st H) (REPR E res) C (some 36) vb_X11_against_18 18 L st H := Eq.trans rfl rfl
theorem xw_X11_against_36 {E : xE} {res : xR} {N : Nat} {hd : List Nat} {C : xCT} {k : Nat} {L : List Int} {st : List pv} {H : PH} : xW E res N kd_X11_against xm_X11_against hd C (k + 1) 36 L st H = xB (fun t L st H => if t ∈ hd then xJ E res N kd_X11_against t L st H else xW E res N kd_X11_against xm_X11_against hd C k t L st H) (REPR E res) C (some 47) vb_X11_against_36 36 L st H := Eq.trans rfl rfl
theorem xw_X11_against_47 {E : xE} {res : xR} {N : Nat} {hd : List Nat} {C : xCT} {k : Nat} {L : List Int} {st : List pv} {H : PH} : xW E res N kd_X11_against xm_X11_against hd C (k + 1) 47 L st H = xB (fun t L st H => if t ∈ hd then xJ E res N kd_X11_against t L st H else xW E res N kd_X11_against xm_X11_against hd C k t L st H) (REPR E res) C (none) vb_X11_against_47 47 L st H := Eq.trans rfl rfl
def xm_X12_standing : List xbT := [(0, vb_X12_standing_0, some 21), (21, vb_X12_standing_21, some 22), (22, vb_X12_standing_22, none)]
theorem xc_X12_standing : xOK kd_X12_standing xm_X12_standing := ⟨ve_X12_standing_0, ve_X12_standing_21, ve_X12_standing_22, trivial⟩
theorem xa_X12_standing : xm_X12_standing.all (fun q => aOKb q.2.1 && !q.2.1.isEmpty) = true := by decide +kernel
theorem xw_X12_standing_0 {E : xE} {res : xR} {N : Nat} {hd : List Nat} {C : xCT} {k : Nat} {L : List Int} {st : List pv} {H : PH} : xW E res N kd_X12_standing xm_X12_standing hd C (k + 1) 0 L st H = xB (fun t L st H => if t ∈ hd then xJ E res N kd_X12_standing t L st H else xW E res N kd_X12_standing xm_X12_standing hd C k t L st H) (REPR E res) C (some 21) vb_X12_standing_0 0 L st H := Eq.trans rfl rfl
theorem xw_X12_standing_21 {E : xE} {res : xR} {N : Nat} {hd : List Nat} {C : xCT} {k : Nat} {L : List Int} {st : List pv} {H : PH} : xW E res N kd_X12_standing xm_X12_standing hd C (k + 1) 21 L st H = xB (fun t L st H => if t ∈ hd then xJ E res N kd_X12_standing t L st H else xW E res N kd_X12_standing xm_X12_standing hd C k t L st H) (REPR E res) C (some 22) vb_X12_standing_21 21 L st H := Eq.trans rfl rfl
theorem xw_X12_standing_22 {E : xE} {res : xR} {N : Nat} {hd : List Nat} {C : xCT} {k : Nat} {L : List Int} {st : List pv} {H : PH} : xW E res N kd_X12_standing xm_X12_standing hd C (k + 1) 22 L st H = xB (fun t L st H => if t ∈ hd then xJ E res N kd_X12_standing t L st H else xW E res N kd_X12_standing xm_X12_standing hd C k t L st H) (REPR E res) C (none) vb_X12_standing_22 22 L st H := Eq.trans rfl rfl
def xm_X12_offers : List xbT := [(0, vb_X12_offers_0, some 24), (24, vb_X12_offers_24, some 25), (25, vb_X12_offers_25, none)]
theorem xc_X12_offers : xOK kd_X12_offers xm_X12_offers := ⟨ve_X12_offers_0, ve_X12_offers_24, ve_X12_offers_25, trivial⟩
theorem xa_X12_offers : xm_X12_offers.all (fun q => aOKb q.2.1 && !q.2.1.isEmpty) = true := by decide +kernel
theorem xw_X12_offers_0 {E : xE} {res : xR} {N : Nat} {hd : List Nat} {C : xCT} {k : Nat} {L : List Int} {st : List pv} {H : PH} : xW E res N kd_X12_offers xm_X12_offers hd C (k + 1) 0 L st H = xB (fun t L st H => if t ∈ hd then xJ E res N kd_X12_offers t L st H else xW E res N kd_X12_offers xm_X12_offers hd C k t L st H) (REPR E res) C (some 24) vb_X12_offers_0 0 L st H := Eq.trans rfl rfl
theorem xw_X12_offers_24 {E : xE} {res : xR} {N : Nat} {hd : List Nat} {C : xCT} {k : Nat} {L : List Int} {st : List pv} {H : PH} : xW E res N kd_X12_offers xm_X12_offers hd C (k + 1) 24 L st H = xB (fun t L st H => if t ∈ hd then xJ E res N kd_X12_offers t L st H else xW E res N kd_X12_offers xm_X12_offers hd C k t L st H) (REPR E res) C (some 25) vb_X12_offers_24 24 L st H := Eq.trans rfl rfl
theorem xw_X12_offers_25 {E : xE} {res : xR} {N : Nat} {hd : List Nat} {C : xCT} {k : Nat} {L : List Int} {st : List pv} {H : PH} : xW E res N kd_X12_offers xm_X12_offers hd C (k + 1) 25 L st H = xB (fun t L st H => if t ∈ hd then xJ E res N kd_X12_offers t L st H else xW E res N kd_X12_offers xm_X12_offers hd C k t L st H) (REPR E res) C (none) vb_X12_offers_25 25 L st H := Eq.trans rfl rfl
def xm_X12_layAgainst : List xbT := [(0, vb_X12_layAgainst_0, some 16), (16, vb_X12_layAgainst_16, some 66), (66, vb_X12_layAgainst_66, some 68), (68, vb_X12_layAgainst_68, some 125), (125, vb_X12_layAgainst_125, some 274), (274, vb_X12_layAgainst_274, some 280), (280, vb_X12_layAgainst_280, none)]
theorem xc_X12_layAgainst : xOK kd_X12_layAgainst xm_X12_layAgainst := ⟨ve_X12_layAgainst_0, ve_X12_layAgainst_16, ve_X12_layAgainst_66, ve_X12_layAgainst_68, ve_X12_layAgainst_125, ve_X12_layAgainst_274, ve_X12_layAgainst_280, trivial⟩
theorem xa_X12_layAgainst : xm_X12_layAgainst.all (fun q => aOKb q.2.1 && !q.2.1.isEmpty) = true := by decide +kernel
theorem xw_X12_layAgainst_0 {E : xE} {res : xR} {N : Nat} {hd : List Nat} {C : xCT} {k : Nat} {L : List Int} {st : List pv} {H : PH} : xW E res N kd_X12_layAgainst xm_X12_layAgainst hd C (k + 1) 0 L st H = xB (fun t L st H => if t ∈ hd then xJ E res N kd_X12_layAgainst t L st H else xW E res N kd_X12_layAgainst xm_X12_layAgainst hd C k t L st H) (REPR E res) C (some 16) vb_X12_layAgainst_0 0 L st H := Eq.trans rfl rfl
theorem xw_X12_layAgainst_16 {E : xE} {res : xR} {N : Nat} {hd : List Nat} {C : xCT} {k : Nat} {L : List Int} {st : List pv} {H : PH} : xW E res N kd_X12_layAgainst xm_X12_layAgainst hd C (k + 1) 16 L st H = xB (fun t L st H => if t ∈ hd then xJ E res N kd_X12_layAgainst t L st H else xW E res N kd_X12_layAgainst xm_X12_layAgainst hd C k t L st H) (REPR E res) C (some 66) vb_X12_layAgainst_16 16 L st H := Eq.trans rfl rfl
theorem xw_X12_layAgainst_66 {E : xE} {res : xR} {N : Nat} {hd : List Nat} {C : xCT} {k : Nat} {L : List Int} {st : List pv} {H : PH} : xW E res N kd_X12_layAgainst xm_X12_layAgainst hd C (k + 1) 66 L st H = xB (fun t L st H => if t ∈ hd then xJ E res N kd_X12_layAgainst t L st H else xW E res N kd_X12_layAgainst xm_X12_layAgainst hd C k t L st H) (REPR E res) C (some 68) vb_X12_layAgainst_66 66 L st H := Eq.trans rfl rfl
theorem xw_X12_layAgainst_68 {E : xE} {res : xR} {N : Nat} {hd : List Nat} {C : xCT} {k : Nat} {L : List Int} {st : List pv} {H : PH} : xW E res N kd_X12_layAgainst xm_X12_layAgainst hd C (k + 1) 68 L st H = xB (fun t L st H => if t ∈ hd then xJ E res N kd_X12_layAgainst t L st H else xW E res N kd_X12_layAgainst xm_X12_layAgainst hd C k t L st H) (REPR E res) C (some 125) vb_X12_layAgainst_68 68 L st H := Eq.trans rfl rfl
theorem xw_X12_layAgainst_125 {E : xE} {res : xR} {N : Nat} {hd : List Nat} {C : xCT} {k : Nat} {L : List Int} {st : List pv} {H : PH} : xW E res N kd_X12_layAgainst xm_X12_layAgainst hd C (k + 1) 125 L st H = xB (fun t L st H => if t ∈ hd then xJ E res N kd_X12_layAgainst t L st H else xW E res N kd_X12_layAgainst xm_X12_layAgainst hd C k t L st H) (REPR E res) C (some 274) vb_X12_layAgainst_125 125 L st H := Eq.trans rfl rfl
theorem xw_X12_layAgainst_274 {E : xE} {res : xR} {N : Nat} {hd : List Nat} {C : xCT} {k : Nat} {L : List Int} {st : List pv} {H : PH} : xW E res N kd_X12_layAgainst xm_X12_layAgainst hd C (k + 1) 274 L st H = xB (fun t L st H => if t ∈ hd then xJ E res N kd_X12_layAgainst t L st H else xW E res N kd_X12_layAgainst xm_X12_layAgainst hd C k t L st H) (REPR E res) C (some 280) vb_X12_layAgainst_274 274 L st H := Eq.trans rfl rfl
theorem xw_X12_layAgainst_280 {E : xE} {res : xR} {N : Nat} {hd : List Nat} {C : xCT} {k : Nat} {L : List Int} {st : List pv} {H : PH} : xW E res N kd_X12_layAgainst xm_X12_layAgainst hd C (k + 1) 280 L st H = xB (fun t L st H => if t ∈ hd then xJ E res N kd_X12_layAgainst t L st H else xW E res N kd_X12_layAgainst xm_X12_layAgainst hd C k t L st H) (REPR E res) C (none) vb_X12_layAgainst_280 280 L st H := Eq.trans rfl rfl
def xm_X12_against : List xbT := [(0, vb_X12_against_0, some 16), (16, vb_X12_against_16, some 18), (18, vb_X12_against_18, some 43), (43, vb_X12_against_43, some 52), (52, vb_X12_against_52, none)]
theorem xc_X12_against : xOK kd_X12_against xm_X12_against := ⟨ve_X12_against_0, ve_X12_against_16, ve_X12_against_18, ve_X12_against_43, ve_X12_against_52, trivial⟩
theorem xa_X12_against : xm_X12_against.all (fun q => aOKb q.2.1 && !q.2.1.isEmpty) = true := by decide +kernel
theorem xw_X12_against_0 {E : xE} {res : xR} {N : Nat} {hd : List Nat} {C : xCT} {k : Nat} {L : List Int} {st : List pv} {H : PH} : xW E res N kd_X12_against xm_X12_against hd C (k + 1) 0 L st H = xB (fun t L st H => if t ∈ hd then xJ E res N kd_X12_against t L st H else xW E res N kd_X12_against xm_X12_against hd C k t L st H) (REPR E res) C (some 16) vb_X12_against_0 0 L st H := Eq.trans rfl rfl
theorem xw_X12_against_16 {E : xE} {res : xR} {N : Nat} {hd : List Nat} {C : xCT} {k : Nat} {L : List Int} {st : List pv} {H : PH} : xW E res N kd_X12_against xm_X12_against hd C (k + 1) 16 L st H = xB (fun t L st H => if t ∈ hd then xJ E res N kd_X12_against t L st H else xW E res N kd_X12_against xm_X12_against hd C k t L st H) (REPR E res) C (some 18) vb_X12_against_16 16 L st H := Eq.trans rfl rfl
theorem xw_X12_against_18 {E : xE} {res : xR} {N : Nat} {hd : List Nat} {C : xCT} {k : Nat} {L : List Int} {st : List pv} {H : PH} : xW E res N kd_X12_against xm_X12_against hd C (k + 1) 18 L st H = xB (fun t L st H => if t ∈ hd then xJ E res N kd_X12_against t L st H else xW E res N kd_X12_against xm_X12_against hd C k t L st H) (REPR E res) C (some 43) vb_X12_against_18 18 L st H := Eq.trans rfl rfl
theorem xw_X12_against_43 {E : xE} {res : xR} {N : Nat} {hd : List Nat} {C : xCT} {k : Nat} {L : List Int} {st : List pv} {H : PH} : xW E res N kd_X12_against xm_X12_against hd C (k + 1) 43 L st H = xB (fun t L st H => if t ∈ hd then xJ E res N kd_X12_against t L st H else xW E res N kd_X12_against xm_X12_against hd C k t L st H) (REPR E res) C (some 52) vb_X12_against_43 43 L st H := Eq.trans rfl rfl
theorem xw_X12_against_52 {E : xE} {res : xR} {N : Nat} {hd : List Nat} {C : xCT} {k : Nat} {L : List Int} {st : List pv} {H : PH} : xW E res N kd_X12_against xm_X12_against hd C (k + 1) 52 L st H = xB (fun t L st H => if t ∈ hd then xJ E res N kd_X12_against t L st H else xW E res N kd_X12_against xm_X12_against hd C k t L st H) (REPR E res) C (none) vb_X12_against_52 52 L st H := Eq.trans rfl rfl
/-! ===== lines of both sides set against one another: both sides ===== -/
theorem CQ_56 {H H1 H' : PH} {S : Int → Int → Int} {n : Int} (h : CQ H H1 S n) (f : ∀ c, ¬ c = 44 → ¬ c = 45 → ¬ c = 55 → ¬ c = 56 → H' c = H1 c) : CQ H H' S n := by
  obtain ⟨r, m, o, t, e⟩ := h
  have ok := RC_sz r
  have ld := r.2.2.1
  have kq : ∀ q, KL q → H' q = H1 q ∧ H' (q + 1) = H1 (q + 1) := fun q hq => by
    have := KL_in hq
    exact ⟨f q (by omega) (by omega) (by omega) (by omega), f _ (by omega) (by omega) (by omega) (by omega)⟩
  have kw : ∀ w, KW w → (H' w 2 = H1 w 2 ∧ H' w 3 = H1 w 3) ∧ H' (w + 1) = H1 (w + 1) := fun w hw => by
    have := KWz hw
    rw [f w (by omega) (by omega) (by omega) (by omega)]
    exact ⟨⟨rfl, rfl⟩, f _ (by omega) (by omega) (by omega) (by omega)⟩
  have ci := CI_fr ok.1 r.1 (fun c hc => f c (by omega) (by omega) (by omega) (by omega)) kq kw
  have gl : GFL H1 H' := GFL_of ld (by rw [f 0 (by decide) (by decide) (by decide) (by decide)]; exact ⟨rfl, rfl⟩) (f 47 (by decide) (by decide) (by decide) (by decide)) (by rw [f 1 (by decide) (by decide) (by decide) (by decide)]; exact ⟨rfl, rfl⟩) (fun l l0 l1 => f _ (by omega) (by omega) (by omega) (by omega)) kw (fun q hq _ => kq q hq)
  exact ⟨RC_fr r ci (CPr_fr (f 42 (by decide) (by decide) (by decide) (by decide)) (f 43 (by decide) (by decide) (by decide) (by decide)) r.2.1) gl, MCC_fr (fun c c0 c1 => f c (by omega) (by omega) (by omega) (by omega)) m, OF_trans o ⟨fun c hc => f c (by omega) (by omega) (by omega) (by omega), ⟨by rw [f 0 (by decide) (by decide) (by decide) (by decide)], f 589 (by decide) (by decide) (by decide) (by decide)⟩, f 214 (by decide) (by decide) (by decide) (by decide)⟩, by rw [f 213 (by decide) (by decide) (by decide) (by decide)]; exact t, by rw [f 372 (by decide) (by decide) (by decide) (by decide)]; exact e⟩
theorem chA_in (A : Int → Int) (x y : Int) : 0 ≤ chA A x y ∧ chA A x y ≤ 3 := by
  unfold chA
  split
  · exact ⟨by decide, by decide⟩
  · split
    · exact ⟨by decide, by decide⟩
    · exact ⟨by decide, by decide⟩
theorem inn_in {c : Int → Int} (hc : ∀ j, 0 ≤ c j ∧ c j ≤ 3) {m i : Int} (hm : m ≤ 8) (hi : 0 ≤ i ∧ i ≤ 8) : ∀ (k : Nat) (j cn : Int) (R : Int → Int), 0 ≤ j → j + k ≤ m → (0 ≤ cn ∧ cn ≤ 2 * (i + j)) → (∀ x, 0 ≤ x → x ≤ m → 0 ≤ R x ∧ R x ≤ 2 * (i + x + (if x ≤ j then 1 else 0))) → ∀ x, 0 ≤ x → x ≤ j + k → 0 ≤ inn c k j cn R x ∧ inn c k j cn R x ≤ 2 * (i + x + 1)
  | 0, j, cn, R, j0, jm, hcn, hR => fun x x0 x1 => by
    have := hR x x0 (by omega)
    rw [if_pos (by omega)] at this
    exact this
  | k + 1, j, cn, R, j0, jm, hcn, hR => fun x x0 x1 => by
    unfold inn
    have h1 := hR (j + 1) (by omega) (by omega)
    rw [if_neg (by omega)] at h1
    have h0 := hR j (by omega) (by omega)
    rw [if_pos (by omega)] at h0
    have hcj := hc j
    have z1 : zw (cn + c j) = cn + c j := zw_lit (by omega) (by omega)
    have z2 : zw (min (R (j + 1)) (R j) + 2) = min (R (j + 1)) (R j) + 2 := zw_lit (by omega) (by omega)
    refine inn_in hc hm hi k (j + 1) _ _ (by omega) (by omega) (by omega) (fun y y0 y1 => ?_) x x0 (by omega)
    unfold xup
    by_cases e : y = j + 1
    · rw [if_pos e, if_pos (by omega), z1, z2]
      omega
    · rw [if_neg e]
      have h := hR y y0 y1
      by_cases l : y ≤ j
      · rw [if_pos l] at h
        rw [if_pos (by omega)]
        exact h
      · rw [if_neg l] at h
        rw [if_neg (by omega)]
        exact h
theorem outr_in {c : Int → Int → Int} (hc : ∀ i j, 0 ≤ c i j ∧ c i j ≤ 3) {m : Nat} (hm : m ≤ 8) : ∀ (k : Nat) (i : Int) (R : Int → Int), 0 ≤ i → i + k ≤ 8 → (∀ x : Int, 0 ≤ x → x ≤ m → 0 ≤ R x ∧ R x ≤ 2 * (i + x)) → ∀ x : Int, 0 ≤ x → x ≤ m → 0 ≤ outr c m k i R x ∧ outr c m k i R x ≤ 2 * (i + k + x)
  | 0, i, R, i0, i8, hR => fun x x0 x1 => by
    have := hR x x0 x1
    have e : outr c m 0 i R = R := rfl
    rw [e]
    omega
  | k + 1, i, R, i0, i8, hR => fun x x0 x1 => by
    unfold outr
    have h0 := hR 0 (by omega) (by omega)
    have g := outr_in hc hm k (i + 1) (inn (c i) m 0 (R 0) (xup R 0 (2 * i + 2))) (by omega) (by omega) (fun y y0 y1 => by
      have := inn_in (hc i) (m := m) (i := i) (by omega) (by omega) m 0 (R 0) (xup R 0 (2 * i + 2)) (by omega) (by omega) (by omega) (fun z z0 z1 => by
        unfold xup
        by_cases e : z = 0
        · rw [if_pos e, if_pos (by omega)]
          omega
        · rw [if_neg e, if_neg (by omega)]
          have := hR z z0 z1
          omega) y y0 (by omega)
      omega) x x0 x1
    omega
theorem apF_in {c : Int → Int → Int} (hc : ∀ i j, 0 ≤ c i j ∧ c i j ≤ 3) {n m : Int} (hn : 0 ≤ n ∧ n ≤ 8) (hm : 0 ≤ m ∧ m ≤ 8) : 0 ≤ apF c n m ∧ apF c n m ≤ 32 := by
  unfold apF
  have := outr_in hc (m := m.toNat) (by omega) n.toNat 0 (fun j => 2 * j) (by omega) (by omega) (fun x x0 x1 => by
    show 0 ≤ 2 * x ∧ 2 * x ≤ 2 * (0 + x)
    omega) m hm.1 (by omega)
  omega
/-- folded over a row of lines -/
def flS (st : Int → (Int → Int) → (Int → Int)) (f : Int → Int) : Nat → Int → (Int → Int) → (Int → Int)
  | 0, _, x => x
  | n + 1, i, x => flS st f n (i + 1) (st (f i) x)
theorem flS_end (st : Int → (Int → Int) → (Int → Int)) (f : Int → Int) : ∀ (n : Nat) (i : Int) (x : Int → Int), flS st f (n + 1) i x = st (f (i + n)) (flS st f n i x)
  | 0, i, x => by
    show st (f i) x = st (f (i + (0 : Nat))) x
    rw [show i + ((0 : Nat) : Int) = i by omega]
  | n + 1, i, x => by
    have e := flS_end st f n (i + 1) (st (f i) x)
    have e1 : flS st f (n + 1 + 1) i x = flS st f (n + 1) (i + 1) (st (f i) x) := rfl
    have e2 : flS st f (n + 1) i x = flS st f n (i + 1) (st (f i) x) := rfl
    rw [e1, e2, e, show i + 1 + (n : Int) = i + ((n + 1 : Nat) : Int) by omega]
theorem flS_eq {st : Int → (Int → Int) → (Int → Int)} {f f' : Int → Int} : ∀ (n : Nat) (i : Int) (x : Int → Int), (∀ y, i ≤ y → y < i + n → f y = f' y) → flS st f n i x = flS st f' n i x
  | 0, _, _, _ => rfl
  | n + 1, i, x, h => by
    unfold flS
    rw [h i (by omega) (by omega)]
    exact flS_eq n (i + 1) _ (fun y p q => h y (by omega) (by omega))
theorem hlS_fl (A : Int → Int) (h d : Int) (st : Int → (Int → Int) → (Int → Int)) (x : Int → Int) : ∀ k : Nat, flS st (hlS A h d k).2 (hlS A h d k).1.toNat 0 x = flS (fun k y => if A (404 + 12 * k + 1) = h ∧ A (404 + 12 * k) = d then st k y else y) (fun k => k) k 0 x
  | 0 => rfl
  | k + 1 => by
    have ih := hlS_fl A h d st x k
    obtain ⟨a, b⟩ := hlS_in A h d k
    rw [flS_end, ← ih, show (0 : Int) + (k : Int) = (k : Int) by omega]
    rw [hlS_S]
    by_cases c : A (404 + 12 * (k : Int) + 1) = h ∧ A (404 + 12 * (k : Int)) = d
    · rw [if_pos c, if_pos c]
      dsimp only
      rw [show ((hlS A h d k).1 + 1).toNat = (hlS A h d k).1.toNat + 1 by omega, flS_end, show (0 : Int) + ((hlS A h d k).1.toNat : Int) = (hlS A h d k).1 by omega]
      have e1 : xup (hlS A h d k).2 (hlS A h d k).1 k (hlS A h d k).1 = k := if_pos rfl
      rw [e1, flS_eq (f' := (hlS A h d k).2)]
      intro y y0 y1
      exact if_neg (by omega)
    · rw [if_neg c, if_neg c]
/-- bales of a line; two lines' marks; what it costs that they stand against one another -/
def bqA (A : Int → Int) (k : Int) : Int := A (404 + 12 * k + 2)
def llA (A : Int → Int) (p q : Int) : Int := apA A (404 + 12 * p + 3) (404 + 12 * p + 4) (404 + 12 * q + 3) (404 + 12 * q + 4)
def asC (A : Int → Int) (p q : Int) : Int := (if 0 ≤ bqA A p - bqA A q then bqA A p - bqA A q else -(bqA A p - bqA A q)) + llA A p q
theorem llA_in {A : Int → Int} (hB : MB A) {p q : Int} (hp : 0 ≤ p ∧ p < A 2) (hq : 0 ≤ q ∧ q < A 2) : 0 ≤ llA A p q ∧ llA A p q ≤ 32 := by
  have a2 := hB.2.2.1
  exact apF_in (fun i j => chA_in A _ _) (hB.2.2.2.2.2.1 p hp.1 (by omega)) (hB.2.2.2.2.2.1 q hq.1 (by omega))
theorem asC_in {A : Int → Int} (hB : MB A) (hX : OKX A) {p q : Int} (hp : 0 ≤ p ∧ p < A 2) (hq : 0 ≤ q ∧ q < A 2) : 0 ≤ asC A p q ∧ asC A p q ≤ 1100 := by
  have l := llA_in hB hp hq
  have b1 := (hX.2 p hp.1 hp.2).2.2
  have b2 := (hX.2 q hq.1 hq.2).2.2
  unfold asC bqA
  omega
/-- a row of costs (times 64, with lines left out), one line more of the ship's -/
def asI (A : Int → Int) (p : Int) (t : Int → Int) : Nat → Int → Int → (Int → Int) → (Int → Int)
  | 0, _, _, R => R
  | n + 1, j, cn, R => asI A p t n (j + 1) (R (j + 1)) (xup R (j + 1) (min (cn + asC A p (t j) * 64) (min (R (j + 1) + (bqA A p * 64 + 1)) (R j + (bqA A (t j) * 64 + 1)))))
def asR (A : Int → Int) (t : Int → Int) (ns : Int) (p : Int) (R : Int → Int) : Int → Int := asI A p t ns.toNat 0 (R 0) (xup R 0 (R 0 + (bqA A p * 64 + 1)))
def agI (A : Int → Int) (t : Int → Int) : Int → Int := fun j => fdS (fun x => bqA A (t x) * 64 + 1) j.toNat 0 0
def agR (A : Int → Int) (h : Int) : Int → Int := flS (asR A (hlZ A h 1).2 (hlZ A h 1).1) (hlZ A h 0).2 (hlZ A h 0).1.toNat 0 (agI A (hlZ A h 1).2)
def agZ (A : Int → Int) (h : Int) : Int := agR A h (hlZ A h 1).1
def agQ (A : Int → Int) (h w : Int) : Int := if (0 ≤ h ∧ h ≤ 4) ∧ (0 ≤ w ∧ w ≤ 1) then (if w = 0 then agZ A h / 64 else agZ A h % 64) else -1
/-- bounds of a row, ships' lines i being done, and of the next one j places -/
def BD (m : Int) (R : Int → Int) (i j ns : Int) : Prop := ∀ x, 0 ≤ x → x ≤ ns → 0 ≤ R x ∧ R x ≤ m * (i + x + (if x ≤ j then 1 else 0))
theorem BD_up {R : Int → Int} {i j ns v : Int} (h : BD 64000 R i j ns) (j0 : -1 ≤ j) (j1 : j < ns) (v0 : 0 ≤ v) (v1 : v ≤ R (j + 1) + 64000) : BD 64000 (xup R (j + 1) v) i (j + 1) ns := by
  intro x x0 x1
  unfold xup
  by_cases e : x = j + 1
  · have g := h (j + 1) (by omega) (by omega)
    rw [if_neg (show ¬ j + 1 ≤ j by omega)] at g
    rw [if_pos e, if_pos (by omega), e]
    omega
  · rw [if_neg e]
    have g := h x x0 x1
    by_cases l : x ≤ j
    · rw [if_pos l] at g
      rw [if_pos (by omega)]
      exact g
    · rw [if_neg l] at g
      rw [if_neg (by omega)]
      exact g
theorem BD1_up {R : Int → Int} {i j ns v : Int} (h : BD 1 R i j ns) (v0 : 0 ≤ v) (v1 : v ≤ i + (j + 1) + 1) : BD 1 (xup R (j + 1) v) i (j + 1) ns := by
  intro x x0 x1
  unfold xup
  by_cases e : x = j + 1
  · rw [if_pos e, if_pos (by omega)]
    omega
  · rw [if_neg e]
    have g := h x x0 x1
    by_cases l : x ≤ j
    · rw [if_pos l] at g
      rw [if_pos (by omega)]
      exact g
    · rw [if_neg l] at g
      rw [if_neg (by omega)]
      exact g
theorem BD_nx {m : Int} {R : Int → Int} {i ns : Int} (h : BD m R i ns ns) : BD m R (i + 1) (-1) ns := by
  intro x x0 x1
  have g := h x x0 x1
  rw [if_pos x1, show i + x + 1 = i + 1 + x + 0 by omega] at g
  rw [if_neg (by omega)]
  exact g
/-- the lines that come into it -/
def LT (A : Int → Int) (t : Int → Int) (ns : Int) : Prop := ∀ x, 0 ≤ x → x < ns → 0 ≤ t x ∧ t x < A 2
theorem asI_BD {A : Int → Int} (hB : MB A) (hX : OKX A) {p : Int} {t : Int → Int} {ns i : Int} (hp : 0 ≤ p ∧ p < A 2) (hT : LT A t ns) : ∀ (n : Nat) (j cn : Int) (R : Int → Int), 0 ≤ j → j + n = ns → 0 ≤ cn → BD 64000 R i j ns → BD 64000 (asI A p t n j cn R) i ns ns
  | 0, j, cn, R, j0, jn, _, h => by
    have e : j = ns := by omega
    rw [← e] at h ⊢
    exact h
  | n + 1, j, cn, R, j0, jn, c0, h => by
    unfold asI
    have a := asC_in hB hX hp (hT j j0 (by omega))
    have b1 := (hX.2 p hp.1 hp.2).2.2
    have tq := hT j j0 (by omega)
    have b2 := (hX.2 (t j) tq.1 tq.2).2.2
    have g := h (j + 1) (by omega) (by omega)
    have g0 := h j (by omega) (by omega)
    exact asI_BD hB hX hp hT n (j + 1) _ _ (by omega) (by omega) g.1 (BD_up h (by omega) (by omega) (by unfold bqA; omega) (by unfold bqA; omega))
theorem asR_BD {A : Int → Int} (hB : MB A) (hX : OKX A) {p : Int} {t : Int → Int} {ns i : Int} {R : Int → Int} (hp : 0 ≤ p ∧ p < A 2) (hT : LT A t ns) (h0 : 0 ≤ ns) (h : BD 64000 R i (-1) ns) : BD 64000 (asR A t ns p R) (i + 1) (-1) ns := by
  have b1 := (hX.2 p hp.1 hp.2).2.2
  have g := h 0 (by omega) h0
  have e0 : R (-1 + 1) = R 0 := rfl
  exact BD_nx (asI_BD hB hX hp hT ns.toNat 0 _ _ (by omega) (by omega) g.1 (BD_up (j := -1) h (by omega) (by omega) (by unfold bqA; omega) (by unfold bqA; omega)))
theorem asI_eq {A : Int → Int} {p : Int} {t t' : Int → Int} {ns : Int} : ∀ (n : Nat) (j cn : Int) (R R' : Int → Int), 0 ≤ j → j + n = ns → (∀ x, 0 ≤ x → x < ns → t x = t' x) → (∀ x, 0 ≤ x → x ≤ ns → R x = R' x) → ∀ x, 0 ≤ x → x ≤ ns → asI A p t n j cn R x = asI A p t' n j cn R' x
  | 0, _, _, _, _, _, _, _, h => h
  | n + 1, j, cn, R, R', j0, jn, ht, h => by
    unfold asI
    rw [h (j + 1) (by omega) (by omega), h j (by omega) (by omega), ht j j0 (by omega)]
    refine asI_eq n (j + 1) _ _ _ (by omega) (by omega) ht (fun x x0 x1 => ?_)
    unfold xup
    rw [h x x0 x1]
theorem hlZ_LT (A : Int → Int) (h d : Int) (hA : 0 ≤ A 2) : LT A (hlZ A h d).2 (hlZ A h d).1 := fun x x0 x1 => by
  have a : 0 ≤ (hlZ A h d).2 x ∧ (hlZ A h d).2 x < ((A 2).toNat : Int) := (hlS_in A h d (A 2).toNat).2 x x0 x1
  omega
theorem hlS_two (A : Int → Int) (h : Int) : ∀ k : Nat, (hlS A h 0 k).1 + (hlS A h 1 k).1 ≤ k
  | 0 => Int.le_refl _
  | k + 1 => by
    have ih := hlS_two A h k
    rw [hlS_S, hlS_S]
    by_cases c : A (404 + 12 * (k : Int) + 1) = h ∧ A (404 + 12 * (k : Int)) = 0
    · rw [if_pos c, if_neg (fun w => by have := c.2; have := w.2; omega)]
      dsimp only
      omega
    · rw [if_neg c]
      by_cases c' : A (404 + 12 * (k : Int) + 1) = h ∧ A (404 + 12 * (k : Int)) = 1
      · rw [if_pos c']
        dsimp only
        omega
      · rw [if_neg c']
        omega
theorem agI_in {A : Int → Int} (hX : OKX A) {t : Int → Int} {ns : Int} (hT : LT A t ns) : ∀ n : Nat, (n : Int) ≤ ns → 0 ≤ fdS (fun x => bqA A (t x) * 64 + 1) n 0 0 ∧ fdS (fun x => bqA A (t x) * 64 + 1) n 0 0 ≤ 64000 * n
  | 0, _ => ⟨Int.le_refl _, Int.le_refl _⟩
  | n + 1, h => by
    have ih := agI_in hX hT n (by omega)
    have tq := hT n (by omega) (by omega)
    have b2 := (hX.2 (t n) tq.1 tq.2).2.2
    rw [fdS_end, show (0 : Int) + (n : Int) = n by omega]
    unfold bqA at ih ⊢
    omega
theorem agI_BD {A : Int → Int} (hX : OKX A) {t : Int → Int} {ns : Int} (hT : LT A t ns) : BD 64000 (agI A t) 0 (-1) ns := by
  intro x x0 x1
  have := agI_in hX hT x.toNat (by omega)
  rw [if_neg (by omega)]
  unfold agI
  omega
theorem agI_S {A : Int → Int} {t : Int → Int} {j : Int} (h : 0 ≤ j) : agI A t (j + 1) = agI A t j + (bqA A (t j) * 64 + 1) := by
  unfold agI
  rw [show (j + 1).toNat = j.toNat + 1 by omega, fdS_end, show (0 : Int) + ((j.toNat : Nat) : Int) = j by omega]
theorem fl_BD {A : Int → Int} (hB : MB A) (hX : OKX A) {t s : Int → Int} {ns : Int} (hT : LT A t ns) (h0 : 0 ≤ ns) : ∀ n : Nat, LT A s n → BD 64000 (flS (asR A t ns) s n 0 (agI A t)) n (-1) ns
  | 0, _ => agI_BD hX hT
  | n + 1, hs => by
    have ih := fl_BD hB hX hT h0 n (fun x x0 x1 => hs x x0 (by omega))
    rw [flS_end, show (0 : Int) + (n : Int) = n by omega]
    have g := asR_BD hB hX (hs n (by omega) (by omega)) hT h0 ih
    rw [show ((n + 1 : Nat) : Int) = (n : Int) + 1 by omega]
    exact g
theorem agZ_in {A : Int → Int} (hB : MB A) (hX : OKX A) (h : Int) : 0 ≤ agZ A h ∧ agZ A h ≤ 3840000 := by
  have a2 := hB.2.2.1
  have z0 := hlZ_in hB h 0
  have z1 := hlZ_in hB h 1
  have tw : (hlZ A h 0).1 + (hlZ A h 1).1 ≤ ((A 2).toNat : Int) := hlS_two A h (A 2).toNat
  have l0 := hlZ_LT A h 0 a2.1
  have e : (((hlZ A h 0).1.toNat : Nat) : Int) = (hlZ A h 0).1 := by omega
  have g := fl_BD hB hX (hlZ_LT A h 1 a2.1) z1.1 (hlZ A h 0).1.toNat (by rw [e]; exact l0) (hlZ A h 1).1 z1.1 (Int.le_refl _)
  rw [if_neg (by omega), e] at g
  unfold agZ agR
  omega
set_option maxRecDepth 100000 in
theorem sp_X1_leavingOut (q : Int) (H : PH) (kq : KL q) : SPEC 28 [(2, q)] H (fun r H' => r = some (0, zw (zw (H q 2 * 64) + 1)) ∧ H' = H) := by
  intro E n res h
  have g2 := (KL_f kq).2.2.2.1
  have cm : H q 2 * 64 = 64 * H q 2 := Int.mul_comm _ _
  have h := call_runP 1 vm_X1_leavingOut h
  have h := xw_top (hd := []) 3 xD6_ok xc_X1_leavingOut xa_X1_leavingOut (t := 0) rfl h
  simp (maxDischargeDepth := 12) -implicitDefEqProofs [vb_X1_leavingOut_0, xI_0, xI_7, xI_8, xI_14, xI_16, xI_49, xI_62, xw_X1_leavingOut_0, zw_lit, xB_c, xB_s, xB_n, i1_c, j2_c, k1_c, jJ_e, xlg, xls, xla, xpd, ppush, zw_m1, zw_m2, zw_m3, gf_5_2, tg_5_2, xD1, xD2, xD3, xD4, xD5, xD6, xb1_0, g2] at h
  exact ⟨_, H, h, rfl, rfl⟩
def FR56 (H H' : PH) : Prop := ∀ c, ¬ c = 44 → ¬ c = 45 → ¬ c = 55 → ¬ c = 56 → H' c = H c
set_option maxRecDepth 100000 in
theorem lp_cas (p ns i : Int) (t : Int → Int) (A : Int → Int) (X : PH) (hB : MB A) (hX : OKX A) (ci : CI X A) (hp : 0 ≤ p ∧ p < A 2) (hT : LT A t ns) (hi : 0 ≤ i) (hin : i + 1 + ns ≤ 60) {E : xE} {res : xR} : ∀ (n : Nat) (j cn y5 y6 y7 : Int) (R : Int → Int) (H : PH), 0 ≤ j → j ≤ ns → (0 ≤ cn ∧ cn ≤ 64000 * (i + j)) → BD 64000 R i j ns → FR56 X H → (∀ x, 0 ≤ x → x < ns → H 55 x = t x) → (∀ x, 0 ≤ x → x ≤ ns → H 56 x = R x) → RUN E res n kd_X1_setAgainstShore (zget kd_X1_setAgainstShore 22) 22 [1, X 47 p, ns, cn, j, y5, y6, y7] [] H → ∃ H' : PH, FR56 X H' ∧ (∀ x, 0 ≤ x → x < ns → H' 55 x = t x) ∧ (∀ x, 0 ≤ x → x ≤ ns → H' 56 x = asI A p t (ns - j).toNat j cn R x) ∧ REPR E res none H' := by
  have a2 := hB.2.2.1
  have kp := ci.2.2.1 p hp.1 (by omega)
  have lp := ci.1.2.2.1 p hp.1 hp.2
  have bp := (hX.2 p hp.1 hp.2).2.2
  have gp2 := (KL_f kp).2.2.2.1
  have gp3 := (KL_f kp).2.2.2.2.1
  intro n
  induction n using Nat.strongRecOn with
  | _ n ih =>
    intro j cn y5 y6 y7 R H j0 j1 hc hb hF h5 h6 h
    by_cases c : j < ns
    · have c' : ¬ ns ≤ j := by omega
      have tq := hT j j0 c
      have kt := ci.2.2.1 (t j) tq.1 (by omega)
      have lt := ci.1.2.2.1 (t j) tq.1 tq.2
      have bt := (hX.2 (t j) tq.1 tq.2).2.2
      have gt2 := (KL_f kt).2.2.2.1
      have gt3 := (KL_f kt).2.2.2.2.1
      have bi1 := KL_in kp
      have bi2 := KL_in kt
      have ep : H (X 47 p) = X (X 47 p) := hF _ (by omega) (by omega) (by omega) (by omega)
      have et : H (X 47 (t j)) = X (X 47 (t j)) := hF _ (by omega) (by omega) (by omega) (by omega)
      have e47 : H 47 = X 47 := hF 47 (by decide) (by decide) (by decide) (by decide)
      have e5 := h5 j j0 c
      have r0 := h6 j j0 j1
      have r1 := h6 (j + 1) (by omega) (by omega)
      have d0 := hb j j0 j1
      have d1 := hb (j + 1) (by omega) (by omega)
      rw [if_pos (show j ≤ j by omega)] at d0
      rw [if_neg (show ¬ j + 1 ≤ j by omega)] at d1
      have z1 : zw (j + 1) = j + 1 := zw_lit (by omega) (by omega)
      have st : (ns - j).toNat = (ns - (j + 1)).toNat + 1 := by omega
      have lop : zw (zw (A (404 + 12 * p + 2) * 64) + 1) = A (404 + 12 * p + 2) * 64 + 1 := by
        rw [zw_lit (x := A (404 + 12 * p + 2) * 64) (by omega) (by omega)]
        exact zw_lit (by omega) (by omega)
      have lot : zw (zw (A (404 + 12 * t j + 2) * 64) + 1) = A (404 + 12 * t j + 2) * 64 + 1 := by
        rw [zw_lit (x := A (404 + 12 * t j + 2) * 64) (by omega) (by omega)]
        exact zw_lit (by omega) (by omega)
      have zs1 : zw (R (j + 1) + (A (404 + 12 * p + 2) * 64 + 1)) = R (j + 1) + (A (404 + 12 * p + 2) * 64 + 1) := zw_lit (by omega) (by omega)
      have zs2 : zw (R j + (A (404 + 12 * t j + 2) * 64 + 1)) = R j + (A (404 + 12 * t j + 2) * 64 + 1) := zw_lit (by omega) (by omega)
      have l2 : X (X 47 p) 2 = A (404 + 12 * p + 2) := lp.2.2.1.symm
      have l2' : X (X 47 (t j)) 2 = A (404 + 12 * t j + 2) := lt.2.2.1.symm
      have al := asC_in hB hX hp tq
      have ll := llA_in hB hp tq
      have ea : ∃ a, 0 ≤ a ∧ a ≤ 999 ∧ asC A p (t j) = a + llA A p (t j) ∧ ((a = A (404 + 12 * p + 2) - A (404 + 12 * t j + 2) ∧ 0 ≤ A (404 + 12 * p + 2) - A (404 + 12 * t j + 2)) ∨ (a = -(A (404 + 12 * p + 2) - A (404 + 12 * t j + 2)) ∧ A (404 + 12 * p + 2) - A (404 + 12 * t j + 2) < 0)) := by
        unfold asC bqA
        by_cases s : 0 ≤ A (404 + 12 * p + 2) - A (404 + 12 * t j + 2)
        · exact ⟨_, s, by omega, by rw [if_pos s], Or.inl ⟨rfl, s⟩⟩
        · exact ⟨-(A (404 + 12 * p + 2) - A (404 + 12 * t j + 2)), by omega, by omega, by rw [if_neg s], Or.inr ⟨rfl, by omega⟩⟩
      obtain ⟨a, a0, a9, ac, as⟩ := ea
      have za : zw (a * 64) = a * 64 := zw_lit (by omega) (by omega)
      have zc : zw (cn + a * 64) = cn + a * 64 := zw_lit (by omega) (by omega)
      have zl : zw (llA A p (t j) * 64) = llA A p (t j) * 64 := zw_lit (by omega) (by omega)
      have zx : zw (cn + a * 64 + llA A p (t j) * 64) = cn + a * 64 + llA A p (t j) * 64 := zw_lit (by omega) (by omega)
      have nx : ∀ (cn' y5 y6 y7 v : Int) (Y : PH), FR56 X Y → (∀ x, 0 ≤ x → x < ns → Y 55 x = t x) → (∀ x, 0 ≤ x → x ≤ ns → Y 56 x = R x) → cn' = R (j + 1) → v = min (cn + asC A p (t j) * 64) (min (R (j + 1) + (A (404 + 12 * p + 2) * 64 + 1)) (R j + (A (404 + 12 * t j + 2) * 64 + 1))) → xJ E res n kd_X1_setAgainstShore 22 [1, X 47 p, ns, cn', j + 1, y5, y6, y7] [] (pup Y 56 (j + 1) v) → ∃ H' : PH, FR56 X H' ∧ (∀ x, 0 ≤ x → x < ns → H' 55 x = t x) ∧ (∀ x, 0 ≤ x → x ≤ ns → H' 56 x = asI A p t (ns - j).toNat j cn R x) ∧ REPR E res none H' := by
        rintro cn' y5 y6 y7 v Y hY hY5 hY6 rfl rfl ⟨m, hm, g⟩
        rw [st]
        unfold asI
        refine ih m hm (j + 1) _ _ _ _ (xup R (j + 1) (min (cn + asC A p (t j) * 64) (min (R (j + 1) + (bqA A p * 64 + 1)) (R j + (bqA A (t j) * 64 + 1))))) _ (by omega) (by omega) (by omega) (BD_up hb (by omega) c (by unfold bqA; omega) (by unfold bqA; omega)) (fun d p1 p2 p3 p4 => by rw [xp_ne p4]; exact hY d p1 p2 p3 p4) (fun x x0 x1 => by rw [xp_ne (by decide)]; exact hY5 x x0 x1) (fun x x0 x1 => ?_) g
        rw [xp_at]
        unfold xup bqA
        by_cases e : x = j + 1
        · rw [if_pos e, if_pos e]
        · rw [if_neg e, if_neg e]
          exact hY6 x x0 x1
      have h := xw_top (hd := [22]) 6 xD6_ok xc_X1_setAgainstShore xa_X1_setAgainstShore (t := 22) rfl h
      simp (maxDischargeDepth := 12) -implicitDefEqProofs [vb_X1_setAgainstShore_0, vb_X1_setAgainstShore_22, vb_X1_setAgainstShore_125, vb_X1_setAgainstShore_157, xI_0, xI_1, xI_3, xI_4, xI_6, xI_7, xI_8, xI_14, xI_15, xI_16, xI_36, xI_46, xI_49, xI_51, xI_52, xI_53, xI_56, xI_60, xI_61, xI_65, xI_66, xw_X1_setAgainstShore_0, xw_X1_setAgainstShore_22, xw_X1_setAgainstShore_125, xw_X1_setAgainstShore_157, zw_lit, xB_c, xB_s, xB_n, i1_c, j2_c, k1_c, jJ_e, xlg, xls, xla, xpd, ppush, zw_m1, zw_m2, zw_m3, gf_1_0, gf_1_3, gf_1_15, gf_1_16, gf_5_2, gf_5_3, tg_1_0, tg_1_15, tg_1_16, tg_1_3, tg_5_2, tg_5_3, gv_1_0, gv_1_3, gv_1_15, gv_1_16, xD1, xD2, xD3, xD4, xD5, xD6, xb1_0, c, c', gv47, e47, e5, r0, r1, z1] at h
      obtain ⟨r, H1, ⟨rfl, rfl⟩, h⟩ := xc_use h (sp_X1_leavingOut (X 47 p) _ kp)
      rw [ep, l2, lop] at h
      simp (maxDischargeDepth := 12) -implicitDefEqProofs [vb_X1_setAgainstShore_0, vb_X1_setAgainstShore_22, vb_X1_setAgainstShore_125, vb_X1_setAgainstShore_157, xI_0, xI_1, xI_3, xI_4, xI_6, xI_7, xI_8, xI_14, xI_15, xI_16, xI_36, xI_46, xI_49, xI_51, xI_52, xI_53, xI_56, xI_60, xI_61, xI_65, xI_66, xw_X1_setAgainstShore_0, xw_X1_setAgainstShore_22, xw_X1_setAgainstShore_125, xw_X1_setAgainstShore_157, zw_lit, xB_c, xB_s, xB_n, i1_c, j2_c, k1_c, jJ_e, xlg, xls, xla, xpd, ppush, zw_m1, zw_m2, zw_m3, gf_1_0, gf_1_3, gf_1_15, gf_1_16, gf_5_2, gf_5_3, tg_1_0, tg_1_15, tg_1_16, tg_1_3, tg_5_2, tg_5_3, gv_1_0, gv_1_3, gv_1_15, gv_1_16, xD1, xD2, xD3, xD4, xD5, xD6, xb1_0, gv47, e47, e5, r0, r1, zs1, z1] at h
      obtain ⟨r, H1, ⟨rfl, rfl⟩, h⟩ := xc_use h (sp_X1_leavingOut (X 47 (t j)) _ kt)
      rw [et, l2', lot] at h
      have gg : ∀ Y : PH, (∀ d, ¬ d = 44 → ¬ d = 45 → Y d = H1 d) → FR56 X Y ∧ (∀ x, 0 ≤ x → x < ns → Y 55 x = t x) ∧ (∀ x, 0 ≤ x → x ≤ ns → Y 56 x = R x) := fun Y hY => ⟨fun d p1 p2 p3 p4 => (hY d p1 p2).trans (hF d p1 p2 p3 p4), fun x x0 x1 => by rw [hY 55 (by decide) (by decide)]; exact h5 x x0 x1, fun x x0 x1 => by rw [hY 56 (by decide) (by decide)]; exact h6 x x0 x1⟩
      obtain ⟨y1, y2, y3⟩ := gg H1 (fun _ _ _ => rfl)
      have vp := lp.2.2.2
      have vt := lt.2.2.2
      have ela : apC H1 (X (X 47 p) 3) (X (X 47 (t j)) 3) = llA A p (t j) := by
        unfold llA apA
        exact apC_A (fun x y x0 x1 w0 w1 => by rw [hF _ (by omega) (by omega) (by omega) (by omega)]; exact ci.1.2.2.2.1 x y x0 x1 w0 w1) vp vt
      have gap : SPEC 85 [(2, 2), (1, X (X 47 p) 3), (1, X (X 47 (t j)) 3)] H1 (fun r H' => r = some (0, llA A p (t j)) ∧ ∀ c, ¬ c = 44 → ¬ c = 45 → H' c = H1 c) := by
        have := sp_X8_gap (X (X 47 p) 3) (X (X 47 (t j)) 3) H1 (by have := vp.1; have := vp.2.1; omega) (by have := vt.1; have := vt.2.1; omega) (fun k k0 k1 => by have := vp.2.2.1 k k0 (by have := vp.1; omega); omega)
        rw [ela] at this
        exact this
      have cmp : (R j + (A (404 + 12 * t j + 2) * 64 + 1) < R (j + 1) + (A (404 + 12 * p + 2) * 64 + 1)) ∨ ¬ (R j + (A (404 + 12 * t j + 2) * 64 + 1) < R (j + 1) + (A (404 + 12 * p + 2) * 64 + 1)) := by omega
      rcases as with ⟨as1, as2⟩ | ⟨as1, as2⟩
      · have zd : zw (A (404 + 12 * p + 2) - A (404 + 12 * t j + 2)) = a := by rw [as1]; exact zw_lit (by omega) (by omega)
        rcases cmp with cmp | cmp
        · by_cases q : R j + (A (404 + 12 * t j + 2) * 64 + 1) ≤ cn + a * 64
          · have q' : ¬ cn + a * 64 < R j + (A (404 + 12 * t j + 2) * 64 + 1) := by omega
            simp (maxDischargeDepth := 12) -implicitDefEqProofs [vb_X1_setAgainstShore_0, vb_X1_setAgainstShore_22, vb_X1_setAgainstShore_125, vb_X1_setAgainstShore_157, xI_0, xI_1, xI_3, xI_4, xI_6, xI_7, xI_8, xI_14, xI_15, xI_16, xI_36, xI_46, xI_49, xI_51, xI_52, xI_53, xI_56, xI_60, xI_61, xI_65, xI_66, xw_X1_setAgainstShore_0, xw_X1_setAgainstShore_22, xw_X1_setAgainstShore_125, xw_X1_setAgainstShore_157, zw_lit, xB_c, xB_s, xB_n, i1_c, j2_c, k1_c, jJ_e, xlg, xls, xla, xpd, ppush, zw_m1, zw_m2, zw_m3, gf_1_0, gf_1_3, gf_1_15, gf_1_16, gf_5_2, gf_5_3, tg_1_0, tg_1_15, tg_1_16, tg_1_3, tg_5_2, tg_5_3, gv_1_0, gv_1_3, gv_1_15, gv_1_16, xD1, xD2, xD3, xD4, xD5, xD6, xb1_0, gp2, gt2, ep, et, l2, l2', zs1, zs2, z1, zd, a0, za, zc, cmp, q, q', r0, r1] at h
            exact nx _ _ _ _ _ _ y1 y2 y3 rfl (by omega) h
          · have q' : cn + a * 64 < R j + (A (404 + 12 * t j + 2) * 64 + 1) := by omega
            simp (maxDischargeDepth := 12) -implicitDefEqProofs [vb_X1_setAgainstShore_0, vb_X1_setAgainstShore_22, vb_X1_setAgainstShore_125, vb_X1_setAgainstShore_157, xI_0, xI_1, xI_3, xI_4, xI_6, xI_7, xI_8, xI_14, xI_15, xI_16, xI_36, xI_46, xI_49, xI_51, xI_52, xI_53, xI_56, xI_60, xI_61, xI_65, xI_66, xw_X1_setAgainstShore_0, xw_X1_setAgainstShore_22, xw_X1_setAgainstShore_125, xw_X1_setAgainstShore_157, zw_lit, xB_c, xB_s, xB_n, i1_c, j2_c, k1_c, jJ_e, xlg, xls, xla, xpd, ppush, zw_m1, zw_m2, zw_m3, gf_1_0, gf_1_3, gf_1_15, gf_1_16, gf_5_2, gf_5_3, tg_1_0, tg_1_15, tg_1_16, tg_1_3, tg_5_2, tg_5_3, gv_1_0, gv_1_3, gv_1_15, gv_1_16, xD1, xD2, xD3, xD4, xD5, xD6, xb1_0, gp2, gp3, gt2, gt3, ep, et, l2, l2', zs1, zs2, z1, zd, a0, za, zc, cmp, q, q'] at h
            obtain ⟨r, H2, ⟨rfl, hf⟩, h⟩ := xc_use h gap
            obtain ⟨y1, y2, y3⟩ := gg H2 hf
            have r1' := y3 (j + 1) (by omega) (by omega)
            simp (maxDischargeDepth := 12) -implicitDefEqProofs [vb_X1_setAgainstShore_0, vb_X1_setAgainstShore_22, vb_X1_setAgainstShore_125, vb_X1_setAgainstShore_157, xI_0, xI_1, xI_3, xI_4, xI_6, xI_7, xI_8, xI_14, xI_15, xI_16, xI_36, xI_46, xI_49, xI_51, xI_52, xI_53, xI_56, xI_60, xI_61, xI_65, xI_66, xw_X1_setAgainstShore_0, xw_X1_setAgainstShore_22, xw_X1_setAgainstShore_125, xw_X1_setAgainstShore_157, zw_lit, xB_c, xB_s, xB_n, i1_c, j2_c, k1_c, jJ_e, xlg, xls, xla, xpd, ppush, zw_m1, zw_m2, zw_m3, gf_1_0, gf_1_3, gf_1_15, gf_1_16, gf_5_2, gf_5_3, tg_1_0, tg_1_15, tg_1_16, tg_1_3, tg_5_2, tg_5_3, gv_1_0, gv_1_3, gv_1_15, gv_1_16, xD1, xD2, xD3, xD4, xD5, xD6, xb1_0, zl, zx, r1', z1] at h
            exact nx _ _ _ _ _ _ y1 y2 y3 rfl (by omega) h
        · by_cases q : R (j + 1) + (A (404 + 12 * p + 2) * 64 + 1) ≤ cn + a * 64
          · have q' : ¬ cn + a * 64 < R (j + 1) + (A (404 + 12 * p + 2) * 64 + 1) := by omega
            simp (maxDischargeDepth := 12) -implicitDefEqProofs [vb_X1_setAgainstShore_0, vb_X1_setAgainstShore_22, vb_X1_setAgainstShore_125, vb_X1_setAgainstShore_157, xI_0, xI_1, xI_3, xI_4, xI_6, xI_7, xI_8, xI_14, xI_15, xI_16, xI_36, xI_46, xI_49, xI_51, xI_52, xI_53, xI_56, xI_60, xI_61, xI_65, xI_66, xw_X1_setAgainstShore_0, xw_X1_setAgainstShore_22, xw_X1_setAgainstShore_125, xw_X1_setAgainstShore_157, zw_lit, xB_c, xB_s, xB_n, i1_c, j2_c, k1_c, jJ_e, xlg, xls, xla, xpd, ppush, zw_m1, zw_m2, zw_m3, gf_1_0, gf_1_3, gf_1_15, gf_1_16, gf_5_2, gf_5_3, tg_1_0, tg_1_15, tg_1_16, tg_1_3, tg_5_2, tg_5_3, gv_1_0, gv_1_3, gv_1_15, gv_1_16, xD1, xD2, xD3, xD4, xD5, xD6, xb1_0, gp2, gt2, ep, et, l2, l2', zs1, zs2, z1, zd, a0, za, zc, cmp, q, q', r0, r1] at h
            exact nx _ _ _ _ _ _ y1 y2 y3 rfl (by omega) h
          · have q' : cn + a * 64 < R (j + 1) + (A (404 + 12 * p + 2) * 64 + 1) := by omega
            simp (maxDischargeDepth := 12) -implicitDefEqProofs [vb_X1_setAgainstShore_0, vb_X1_setAgainstShore_22, vb_X1_setAgainstShore_125, vb_X1_setAgainstShore_157, xI_0, xI_1, xI_3, xI_4, xI_6, xI_7, xI_8, xI_14, xI_15, xI_16, xI_36, xI_46, xI_49, xI_51, xI_52, xI_53, xI_56, xI_60, xI_61, xI_65, xI_66, xw_X1_setAgainstShore_0, xw_X1_setAgainstShore_22, xw_X1_setAgainstShore_125, xw_X1_setAgainstShore_157, zw_lit, xB_c, xB_s, xB_n, i1_c, j2_c, k1_c, jJ_e, xlg, xls, xla, xpd, ppush, zw_m1, zw_m2, zw_m3, gf_1_0, gf_1_3, gf_1_15, gf_1_16, gf_5_2, gf_5_3, tg_1_0, tg_1_15, tg_1_16, tg_1_3, tg_5_2, tg_5_3, gv_1_0, gv_1_3, gv_1_15, gv_1_16, xD1, xD2, xD3, xD4, xD5, xD6, xb1_0, gp2, gp3, gt2, gt3, ep, et, l2, l2', zs1, zs2, z1, zd, a0, za, zc, cmp, q, q'] at h
            obtain ⟨r, H2, ⟨rfl, hf⟩, h⟩ := xc_use h gap
            obtain ⟨y1, y2, y3⟩ := gg H2 hf
            have r1' := y3 (j + 1) (by omega) (by omega)
            simp (maxDischargeDepth := 12) -implicitDefEqProofs [vb_X1_setAgainstShore_0, vb_X1_setAgainstShore_22, vb_X1_setAgainstShore_125, vb_X1_setAgainstShore_157, xI_0, xI_1, xI_3, xI_4, xI_6, xI_7, xI_8, xI_14, xI_15, xI_16, xI_36, xI_46, xI_49, xI_51, xI_52, xI_53, xI_56, xI_60, xI_61, xI_65, xI_66, xw_X1_setAgainstShore_0, xw_X1_setAgainstShore_22, xw_X1_setAgainstShore_125, xw_X1_setAgainstShore_157, zw_lit, xB_c, xB_s, xB_n, i1_c, j2_c, k1_c, jJ_e, xlg, xls, xla, xpd, ppush, zw_m1, zw_m2, zw_m3, gf_1_0, gf_1_3, gf_1_15, gf_1_16, gf_5_2, gf_5_3, tg_1_0, tg_1_15, tg_1_16, tg_1_3, tg_5_2, tg_5_3, gv_1_0, gv_1_3, gv_1_15, gv_1_16, xD1, xD2, xD3, xD4, xD5, xD6, xb1_0, zl, zx, r1', z1] at h
            exact nx _ _ _ _ _ _ y1 y2 y3 rfl (by omega) h
      · obtain ⟨d, hd⟩ : ∃ d, d = A (404 + 12 * p + 2) - A (404 + 12 * t j + 2) := ⟨_, rfl⟩
        have zd : zw (A (404 + 12 * p + 2) - A (404 + 12 * t j + 2)) = d := by rw [hd]; exact zw_lit (by omega) (by omega)
        have dn : ¬ 0 ≤ d := by omega
        have dn' : d < 0 := by omega
        have zn : zw (0 - d) = a := by rw [show 0 - d = a by omega]; exact zw_lit (by omega) (by omega)
        have zn' : zw (-d) = a := by rw [show -d = a by omega]; exact zw_lit (by omega) (by omega)
        rcases cmp with cmp | cmp
        · by_cases q : R j + (A (404 + 12 * t j + 2) * 64 + 1) ≤ cn + a * 64
          · have q' : ¬ cn + a * 64 < R j + (A (404 + 12 * t j + 2) * 64 + 1) := by omega
            simp (maxDischargeDepth := 12) -implicitDefEqProofs [vb_X1_setAgainstShore_0, vb_X1_setAgainstShore_22, vb_X1_setAgainstShore_125, vb_X1_setAgainstShore_157, xI_0, xI_1, xI_3, xI_4, xI_6, xI_7, xI_8, xI_14, xI_15, xI_16, xI_36, xI_46, xI_49, xI_51, xI_52, xI_53, xI_56, xI_60, xI_61, xI_65, xI_66, xw_X1_setAgainstShore_0, xw_X1_setAgainstShore_22, xw_X1_setAgainstShore_125, xw_X1_setAgainstShore_157, zw_lit, xB_c, xB_s, xB_n, i1_c, j2_c, k1_c, jJ_e, xlg, xls, xla, xpd, ppush, zw_m1, zw_m2, zw_m3, gf_1_0, gf_1_3, gf_1_15, gf_1_16, gf_5_2, gf_5_3, tg_1_0, tg_1_15, tg_1_16, tg_1_3, tg_5_2, tg_5_3, gv_1_0, gv_1_3, gv_1_15, gv_1_16, xD1, xD2, xD3, xD4, xD5, xD6, xb1_0, gp2, gt2, ep, et, l2, l2', zs1, zs2, z1, zd, dn, dn', zn, zn', za, zc, cmp, q, q', r0, r1] at h
            exact nx _ _ _ _ _ _ y1 y2 y3 rfl (by omega) h
          · have q' : cn + a * 64 < R j + (A (404 + 12 * t j + 2) * 64 + 1) := by omega
            simp (maxDischargeDepth := 12) -implicitDefEqProofs [vb_X1_setAgainstShore_0, vb_X1_setAgainstShore_22, vb_X1_setAgainstShore_125, vb_X1_setAgainstShore_157, xI_0, xI_1, xI_3, xI_4, xI_6, xI_7, xI_8, xI_14, xI_15, xI_16, xI_36, xI_46, xI_49, xI_51, xI_52, xI_53, xI_56, xI_60, xI_61, xI_65, xI_66, xw_X1_setAgainstShore_0, xw_X1_setAgainstShore_22, xw_X1_setAgainstShore_125, xw_X1_setAgainstShore_157, zw_lit, xB_c, xB_s, xB_n, i1_c, j2_c, k1_c, jJ_e, xlg, xls, xla, xpd, ppush, zw_m1, zw_m2, zw_m3, gf_1_0, gf_1_3, gf_1_15, gf_1_16, gf_5_2, gf_5_3, tg_1_0, tg_1_15, tg_1_16, tg_1_3, tg_5_2, tg_5_3, gv_1_0, gv_1_3, gv_1_15, gv_1_16, xD1, xD2, xD3, xD4, xD5, xD6, xb1_0, gp2, gp3, gt2, gt3, ep, et, l2, l2', zs1, zs2, z1, zd, dn, dn', zn, zn', za, zc, cmp, q, q'] at h
            obtain ⟨r, H2, ⟨rfl, hf⟩, h⟩ := xc_use h gap
            obtain ⟨y1, y2, y3⟩ := gg H2 hf
            have r1' := y3 (j + 1) (by omega) (by omega)
            simp (maxDischargeDepth := 12) -implicitDefEqProofs [vb_X1_setAgainstShore_0, vb_X1_setAgainstShore_22, vb_X1_setAgainstShore_125, vb_X1_setAgainstShore_157, xI_0, xI_1, xI_3, xI_4, xI_6, xI_7, xI_8, xI_14, xI_15, xI_16, xI_36, xI_46, xI_49, xI_51, xI_52, xI_53, xI_56, xI_60, xI_61, xI_65, xI_66, xw_X1_setAgainstShore_0, xw_X1_setAgainstShore_22, xw_X1_setAgainstShore_125, xw_X1_setAgainstShore_157, zw_lit, xB_c, xB_s, xB_n, i1_c, j2_c, k1_c, jJ_e, xlg, xls, xla, xpd, ppush, zw_m1, zw_m2, zw_m3, gf_1_0, gf_1_3, gf_1_15, gf_1_16, gf_5_2, gf_5_3, tg_1_0, tg_1_15, tg_1_16, tg_1_3, tg_5_2, tg_5_3, gv_1_0, gv_1_3, gv_1_15, gv_1_16, xD1, xD2, xD3, xD4, xD5, xD6, xb1_0, zl, zx, r1', z1] at h
            exact nx _ _ _ _ _ _ y1 y2 y3 rfl (by omega) h
        · by_cases q : R (j + 1) + (A (404 + 12 * p + 2) * 64 + 1) ≤ cn + a * 64
          · have q' : ¬ cn + a * 64 < R (j + 1) + (A (404 + 12 * p + 2) * 64 + 1) := by omega
            simp (maxDischargeDepth := 12) -implicitDefEqProofs [vb_X1_setAgainstShore_0, vb_X1_setAgainstShore_22, vb_X1_setAgainstShore_125, vb_X1_setAgainstShore_157, xI_0, xI_1, xI_3, xI_4, xI_6, xI_7, xI_8, xI_14, xI_15, xI_16, xI_36, xI_46, xI_49, xI_51, xI_52, xI_53, xI_56, xI_60, xI_61, xI_65, xI_66, xw_X1_setAgainstShore_0, xw_X1_setAgainstShore_22, xw_X1_setAgainstShore_125, xw_X1_setAgainstShore_157, zw_lit, xB_c, xB_s, xB_n, i1_c, j2_c, k1_c, jJ_e, xlg, xls, xla, xpd, ppush, zw_m1, zw_m2, zw_m3, gf_1_0, gf_1_3, gf_1_15, gf_1_16, gf_5_2, gf_5_3, tg_1_0, tg_1_15, tg_1_16, tg_1_3, tg_5_2, tg_5_3, gv_1_0, gv_1_3, gv_1_15, gv_1_16, xD1, xD2, xD3, xD4, xD5, xD6, xb1_0, gp2, gt2, ep, et, l2, l2', zs1, zs2, z1, zd, dn, dn', zn, zn', za, zc, cmp, q, q', r0, r1] at h
            exact nx _ _ _ _ _ _ y1 y2 y3 rfl (by omega) h
          · have q' : cn + a * 64 < R (j + 1) + (A (404 + 12 * p + 2) * 64 + 1) := by omega
            simp (maxDischargeDepth := 12) -implicitDefEqProofs [vb_X1_setAgainstShore_0, vb_X1_setAgainstShore_22, vb_X1_setAgainstShore_125, vb_X1_setAgainstShore_157, xI_0, xI_1, xI_3, xI_4, xI_6, xI_7, xI_8, xI_14, xI_15, xI_16, xI_36, xI_46, xI_49, xI_51, xI_52, xI_53, xI_56, xI_60, xI_61, xI_65, xI_66, xw_X1_setAgainstShore_0, xw_X1_setAgainstShore_22, xw_X1_setAgainstShore_125, xw_X1_setAgainstShore_157, zw_lit, xB_c, xB_s, xB_n, i1_c, j2_c, k1_c, jJ_e, xlg, xls, xla, xpd, ppush, zw_m1, zw_m2, zw_m3, gf_1_0, gf_1_3, gf_1_15, gf_1_16, gf_5_2, gf_5_3, tg_1_0, tg_1_15, tg_1_16, tg_1_3, tg_5_2, tg_5_3, gv_1_0, gv_1_3, gv_1_15, gv_1_16, xD1, xD2, xD3, xD4, xD5, xD6, xb1_0, gp2, gp3, gt2, gt3, ep, et, l2, l2', zs1, zs2, z1, zd, dn, dn', zn, zn', za, zc, cmp, q, q'] at h
            obtain ⟨r, H2, ⟨rfl, hf⟩, h⟩ := xc_use h gap
            obtain ⟨y1, y2, y3⟩ := gg H2 hf
            have r1' := y3 (j + 1) (by omega) (by omega)
            simp (maxDischargeDepth := 12) -implicitDefEqProofs [vb_X1_setAgainstShore_0, vb_X1_setAgainstShore_22, vb_X1_setAgainstShore_125, vb_X1_setAgainstShore_157, xI_0, xI_1, xI_3, xI_4, xI_6, xI_7, xI_8, xI_14, xI_15, xI_16, xI_36, xI_46, xI_49, xI_51, xI_52, xI_53, xI_56, xI_60, xI_61, xI_65, xI_66, xw_X1_setAgainstShore_0, xw_X1_setAgainstShore_22, xw_X1_setAgainstShore_125, xw_X1_setAgainstShore_157, zw_lit, xB_c, xB_s, xB_n, i1_c, j2_c, k1_c, jJ_e, xlg, xls, xla, xpd, ppush, zw_m1, zw_m2, zw_m3, gf_1_0, gf_1_3, gf_1_15, gf_1_16, gf_5_2, gf_5_3, tg_1_0, tg_1_15, tg_1_16, tg_1_3, tg_5_2, tg_5_3, gv_1_0, gv_1_3, gv_1_15, gv_1_16, xD1, xD2, xD3, xD4, xD5, xD6, xb1_0, zl, zx, r1', z1] at h
            exact nx _ _ _ _ _ _ y1 y2 y3 rfl (by omega) h
    · have c' : ns ≤ j := by omega
      rw [show (ns - j).toNat = 0 by omega]
      have h := xw_top (hd := [22]) 6 xD6_ok xc_X1_setAgainstShore xa_X1_setAgainstShore (t := 22) rfl h
      simp (maxDischargeDepth := 12) -implicitDefEqProofs [vb_X1_setAgainstShore_0, vb_X1_setAgainstShore_22, vb_X1_setAgainstShore_125, vb_X1_setAgainstShore_157, xI_0, xI_1, xI_3, xI_4, xI_6, xI_7, xI_8, xI_14, xI_15, xI_16, xI_36, xI_46, xI_49, xI_51, xI_52, xI_53, xI_56, xI_60, xI_61, xI_65, xI_66, xw_X1_setAgainstShore_0, xw_X1_setAgainstShore_22, xw_X1_setAgainstShore_125, xw_X1_setAgainstShore_157, zw_lit, xB_c, xB_s, xB_n, i1_c, j2_c, k1_c, jJ_e, xlg, xls, xla, xpd, ppush, zw_m1, zw_m2, zw_m3, gf_1_0, gf_1_3, gf_1_15, gf_1_16, gf_5_2, gf_5_3, tg_1_0, tg_1_15, tg_1_16, tg_1_3, tg_5_2, tg_5_3, gv_1_0, gv_1_3, gv_1_15, gv_1_16, xD1, xD2, xD3, xD4, xD5, xD6, xb1_0, c, c'] at h
      exact ⟨H, hF, h5, h6, h⟩
set_option maxRecDepth 100000 in
theorem sp_X1_setAgainstShore (p ns i : Int) (t R : Int → Int) (A : Int → Int) (X H : PH) (hB : MB A) (hX : OKX A) (ci : CI X A) (hp : 0 ≤ p ∧ p < A 2) (hT : LT A t ns) (hi : 0 ≤ i) (hin : i + 1 + ns ≤ 60) (h0 : 0 ≤ ns) (hb : BD 64000 R i (-1) ns) (hF : FR56 X H) (h5 : ∀ x, 0 ≤ x → x < ns → H 55 x = t x) (h6 : ∀ x, 0 ≤ x → x ≤ ns → H 56 x = R x) : SPEC 29 [(2, 1), (2, X 47 p), (0, ns)] H (fun r H' => r = none ∧ FR56 X H' ∧ (∀ x, 0 ≤ x → x < ns → H' 55 x = t x) ∧ ∀ x, 0 ≤ x → x ≤ ns → H' 56 x = asR A t ns p R x) := by
  intro E n res h
  have a2 := hB.2.2.1
  have kp := ci.2.2.1 p hp.1 (by omega)
  have lp := ci.1.2.2.1 p hp.1 hp.2
  have bp := (hX.2 p hp.1 hp.2).2.2
  have bi1 := KL_in kp
  have ep : H (X 47 p) = X (X 47 p) := hF _ (by omega) (by omega) (by omega) (by omega)
  have l2 : X (X 47 p) 2 = A (404 + 12 * p + 2) := lp.2.2.1.symm
  have r0 := h6 0 (by omega) h0
  have d0 := hb 0 (by omega) h0
  rw [if_neg (by omega)] at d0
  have lop : zw (zw (A (404 + 12 * p + 2) * 64) + 1) = A (404 + 12 * p + 2) * 64 + 1 := by
    rw [zw_lit (x := A (404 + 12 * p + 2) * 64) (by omega) (by omega)]
    exact zw_lit (by omega) (by omega)
  have zs1 : zw (R 0 + (A (404 + 12 * p + 2) * 64 + 1)) = R 0 + (A (404 + 12 * p + 2) * 64 + 1) := zw_lit (by omega) (by omega)
  have e0 : R (-1 + 1) = R 0 := rfl
  have h := call_runP 8 vm_X1_setAgainstShore h
  have h := xw_top (hd := [22]) 6 xD6_ok xc_X1_setAgainstShore xa_X1_setAgainstShore (t := 0) rfl h
  simp (maxDischargeDepth := 12) -implicitDefEqProofs [vb_X1_setAgainstShore_0, vb_X1_setAgainstShore_22, vb_X1_setAgainstShore_125, vb_X1_setAgainstShore_157, xI_0, xI_1, xI_3, xI_4, xI_6, xI_7, xI_8, xI_14, xI_15, xI_16, xI_36, xI_46, xI_49, xI_51, xI_52, xI_53, xI_56, xI_60, xI_61, xI_65, xI_66, xw_X1_setAgainstShore_0, xw_X1_setAgainstShore_22, xw_X1_setAgainstShore_125, xw_X1_setAgainstShore_157, zw_lit, xB_c, xB_s, xB_n, i1_c, j2_c, k1_c, jJ_e, xlg, xls, xla, xpd, ppush, zw_m1, zw_m2, zw_m3, gf_1_0, gf_1_3, gf_1_15, gf_1_16, gf_5_2, gf_5_3, tg_1_0, tg_1_15, tg_1_16, tg_1_3, tg_5_2, tg_5_3, gv_1_0, gv_1_3, gv_1_15, gv_1_16, xD1, xD2, xD3, xD4, xD5, xD6, xb1_0, r0] at h
  obtain ⟨r, H1, ⟨rfl, rfl⟩, h⟩ := xc_use h (sp_X1_leavingOut (X 47 p) _ kp)
  rw [ep, l2, lop] at h
  simp (maxDischargeDepth := 12) -implicitDefEqProofs [vb_X1_setAgainstShore_0, vb_X1_setAgainstShore_22, vb_X1_setAgainstShore_125, vb_X1_setAgainstShore_157, xI_0, xI_1, xI_3, xI_4, xI_6, xI_7, xI_8, xI_14, xI_15, xI_16, xI_36, xI_46, xI_49, xI_51, xI_52, xI_53, xI_56, xI_60, xI_61, xI_65, xI_66, xw_X1_setAgainstShore_0, xw_X1_setAgainstShore_22, xw_X1_setAgainstShore_125, xw_X1_setAgainstShore_157, zw_lit, xB_c, xB_s, xB_n, i1_c, j2_c, k1_c, jJ_e, xlg, xls, xla, xpd, ppush, zw_m1, zw_m2, zw_m3, gf_1_0, gf_1_3, gf_1_15, gf_1_16, gf_5_2, gf_5_3, tg_1_0, tg_1_15, tg_1_16, tg_1_3, tg_5_2, tg_5_3, gv_1_0, gv_1_3, gv_1_15, gv_1_16, xD1, xD2, xD3, xD4, xD5, xD6, xb1_0, zs1] at h
  obtain ⟨m, hm, h⟩ := h
  obtain ⟨H', f1, f5, f6, g⟩ := lp_cas p ns i t A X hB hX ci hp hT hi hin m 0 _ _ _ _ (xup R 0 (R 0 + (bqA A p * 64 + 1))) _ (by omega) h0 (by omega) (BD_up (j := -1) hb (by omega) (by omega) (by unfold bqA; omega) (by unfold bqA; omega)) (fun d p1 p2 p3 p4 => by rw [xp_ne p4]; exact hF d p1 p2 p3 p4) (fun x x0 x1 => by rw [xp_ne (by decide)]; exact h5 x x0 x1) (fun x x0 x1 => by
    rw [xp_at]
    unfold xup bqA
    by_cases e : x = 0
    · rw [if_pos e, if_pos e]
    · rw [if_neg e, if_neg e]
      exact h6 x x0 x1) h
  rw [Int.sub_zero] at f6
  exact ⟨_, H', g, rfl, f1, f5, f6⟩
