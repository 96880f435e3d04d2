theorem gf_5_1 : gfOK 5 1 = true := by decide +kernel
def xm_X11_hold : List xbT := [(0, vb_X11_hold_0, some 9), (9, vb_X11_hold_9, some 56), (56, vb_X11_hold_56, some 66), (66, vb_X11_hold_66, some 78), (78, vb_X11_hold_78, some 87), (87, vb_X11_hold_87, some 96), (96, vb_X11_hold_96, none)]
theorem xc_X11_hold : xOK kd_X11_hold xm_X11_hold := ⟨ve_X11_hold_0, ve_X11_hold_9, ve_X11_hold_56, ve_X11_hold_66, ve_X11_hold_78, ve_X11_hold_87, ve_X11_hold_96, trivial⟩
theorem xa_X11_hold : xm_X11_hold.all (fun q => aOKb q.2.1 && !q.2.1.isEmpty) = true := by decide +kernel
theorem xw_X11_hold_0 {E : xE} {res : xR} {N : Nat} {hd : List Nat} {C : xCT} {k : Nat} {L : List Int} {st : List pv} {H : PH} : xW E res N kd_X11_hold xm_X11_hold hd C (k + 1) 0 L st H = xB (fun t L st H => if t ∈ hd then xJ E res N kd_X11_hold t L st H else xW E res N kd_X11_hold xm_X11_hold hd C k t L st H) (REPR E res) C (some 9) vb_X11_hold_0 0 L st H := Eq.trans rfl rfl
theorem xw_X11_hold_9 {E : xE} {res : xR} {N : Nat} {hd : List Nat} {C : xCT} {k : Nat} {L : List Int} {st : List pv} {H : PH} : xW E res N kd_X11_hold xm_X11_hold hd C (k + 1) 9 L st H = xB (fun t L st H => if t ∈ hd then xJ E res N kd_X11_hold t L st H else xW E res N kd_X11_hold xm_X11_hold hd C k t L st H) (REPR E res) C (some 56) vb_X11_hold_9 9 L st H := Eq.trans rfl rfl
theorem xw_X11_hold_56 {E : xE} {res : xR} {N : Nat} {hd : List Nat} {C : xCT} {k : Nat} {L : List Int} {st : List pv} {H : PH} : xW E res N kd_X11_hold xm_X11_hold hd C (k + 1) 56 L st H = xB (fun t L st H => if t ∈ hd then xJ E res N kd_X11_hold t L st H else xW E res N kd_X11_hold xm_X11_hold hd C k t L st H) (REPR E res) C (some 66) vb_X11_hold_56 56 L st H := Eq.trans rfl rfl
theorem xw_X11_hold_66 {E : xE} {res : xR} {N : Nat} {hd : List Nat} {C : xCT} {k : Nat} {L : List Int} {st : List pv} {H : PH} : xW E res N kd_X11_hold xm_X11_hold hd C (k + 1) 66 L st H = xB (fun t L st H => if t ∈ hd then xJ E res N kd_X11_hold t L st H else xW E res N kd_X11_hold xm_X11_hold hd C k t L st H) (REPR E res) C (some 78) vb_X11_hold_66 66 L st H := Eq.trans rfl rfl
theorem xw_X11_hold_78 {E : xE} {res : xR} {N : Nat} {hd : List Nat} {C : xCT} {k : Nat} {L : List Int} {st : List pv} {H : PH} : xW E res N kd_X11_hold xm_X11_hold hd C (k + 1) 78 L st H = xB (fun t L st H => if t ∈ hd then xJ E res N kd_X11_hold t L st H else xW E res N kd_X11_hold xm_X11_hold hd C k t L st H) (REPR E res) C (some 87) vb_X11_hold_78 78 L st H := Eq.trans rfl rfl
theorem xw_X11_hold_87 {E : xE} {res : xR} {N : Nat} {hd : List Nat} {C : xCT} {k : Nat} {L : List Int} {st : List pv} {H : PH} : xW E res N kd_X11_hold xm_X11_hold hd C (k + 1) 87 L st H = xB (fun t L st H => if t ∈ hd then xJ E res N kd_X11_hold t L st H else xW E res N kd_X11_hold xm_X11_hold hd C k t L st H) (REPR E res) C (some 96) vb_X11_hold_87 87 L st H := Eq.trans rfl rfl
theorem xw_X11_hold_96 {E : xE} {res : xR} {N : Nat} {hd : List Nat} {C : xCT} {k : Nat} {L : List Int} {st : List pv} {H : PH} : xW E res N kd_X11_hold xm_X11_hold hd C (k + 1) 96 L st H = xB (fun t L st H => if t ∈ hd then xJ E res N kd_X11_hold t L st H else xW E res N kd_X11_hold xm_X11_hold hd C k t L st H) (REPR E res) C (none) vb_X11_hold_96 96 L st H := Eq.trans rfl rfl
def xm_X1_balesIn : List xbT := [(0, vb_X1_balesIn_0, some 5), (5, vb_X1_balesIn_5, some 38), (38, vb_X1_balesIn_38, some 44), (44, vb_X1_balesIn_44, none)]
theorem xc_X1_balesIn : xOK kd_X1_balesIn xm_X1_balesIn := ⟨ve_X1_balesIn_0, ve_X1_balesIn_5, ve_X1_balesIn_38, ve_X1_balesIn_44, trivial⟩
theorem xa_X1_balesIn : xm_X1_balesIn.all (fun q => aOKb q.2.1 && !q.2.1.isEmpty) = true := by decide +kernel
theorem xw_X1_balesIn_0 {E : xE} {res : xR} {N : Nat} {hd : List Nat} {C : xCT} {k : Nat} {L : List Int} {st : List pv} {H : PH} : xW E res N kd_X1_balesIn xm_X1_balesIn hd C (k + 1) 0 L st H = xB (fun t L st H => if t ∈ hd then xJ E res N kd_X1_balesIn t L st H else xW E res N kd_X1_balesIn xm_X1_balesIn hd C k t L st H) (REPR E res) C (some 5) vb_X1_balesIn_0 0 L st H := Eq.trans rfl rfl
theorem xw_X1_balesIn_5 {E : xE} {res : xR} {N : Nat} {hd : List Nat} {C : xCT} {k : Nat} {L : List Int} {st : List pv} {H : PH} : xW E res N kd_X1_balesIn xm_X1_balesIn hd C (k + 1) 5 L st H = xB (fun t L st H => if t ∈ hd then xJ E res N kd_X1_balesIn t L st H else xW E res N kd_X1_balesIn xm_X1_balesIn hd C k t L st H) (REPR E res) C (some 38) vb_X1_balesIn_5 5 L st H := Eq.trans rfl rfl
theorem xw_X1_balesIn_38 {E : xE} {res : xR} {N : Nat} {hd : List Nat} {C : xCT} {k : Nat} {L : List Int} {st : List pv} {H : PH} : xW E res N kd_X1_balesIn xm_X1_balesIn hd C (k + 1) 38 L st H = xB (fun t L st H => if t ∈ hd then xJ E res N kd_X1_balesIn t L st H else xW E res N kd_X1_balesIn xm_X1_balesIn hd C k t L st H) (REPR E res) C (some 44) vb_X1_balesIn_38 38 L st H := Eq.trans rfl rfl
theorem xw_X1_balesIn_44 {E : xE} {res : xR} {N : Nat} {hd : List Nat} {C : xCT} {k : Nat} {L : List Int} {st : List pv} {H : PH} : xW E res N kd_X1_balesIn xm_X1_balesIn hd C (k + 1) 44 L st H = xB (fun t L st H => if t ∈ hd then xJ E res N kd_X1_balesIn t L st H else xW E res N kd_X1_balesIn xm_X1_balesIn hd C k t L st H) (REPR E res) C (none) vb_X1_balesIn_44 44 L st H := Eq.trans rfl rfl
def xm_X1_isIn : List xbT := [(0, vb_X1_isIn_0, some 30), (30, vb_X1_isIn_30, some 31), (31, vb_X1_isIn_31, none)]
theorem xc_X1_isIn : xOK kd_X1_isIn xm_X1_isIn := ⟨ve_X1_isIn_0, ve_X1_isIn_30, ve_X1_isIn_31, trivial⟩
theorem xa_X1_isIn : xm_X1_isIn.all (fun q => aOKb q.2.1 && !q.2.1.isEmpty) = true := by decide +kernel
theorem xw_X1_isIn_0 {E : xE} {res : xR} {N : Nat} {hd : List Nat} {C : xCT} {k : Nat} {L : List Int} {st : List pv} {H : PH} : xW E res N kd_X1_isIn xm_X1_isIn hd C (k + 1) 0 L st H = xB (fun t L st H => if t ∈ hd then xJ E res N kd_X1_isIn t L st H else xW E res N kd_X1_isIn xm_X1_isIn hd C k t L st H) (REPR E res) C (some 30) vb_X1_isIn_0 0 L st H := Eq.trans rfl rfl
theorem xw_X1_isIn_30 {E : xE} {res : xR} {N : Nat} {hd : List Nat} {C : xCT} {k : Nat} {L : List Int} {st : List pv} {H : PH} : xW E res N kd_X1_isIn xm_X1_isIn hd C (k + 1) 30 L st H = xB (fun t L st H => if t ∈ hd then xJ E res N kd_X1_isIn t L st H else xW E res N kd_X1_isIn xm_X1_isIn hd C k t L st H) (REPR E res) C (some 31) vb_X1_isIn_30 30 L st H := Eq.trans rfl rfl
theorem xw_X1_isIn_31 {E : xE} {res : xR} {N : Nat} {hd : List Nat} {C : xCT} {k : Nat} {L : List Int} {st : List pv} {H : PH} : xW E res N kd_X1_isIn xm_X1_isIn hd C (k + 1) 31 L st H = xB (fun t L st H => if t ∈ hd then xJ E res N kd_X1_isIn t L st H else xW E res N kd_X1_isIn xm_X1_isIn hd C k t L st H) (REPR E res) C (none) vb_X1_isIn_31 31 L st H := Eq.trans rfl rfl
def xm_X1_linesIn : List xbT := [(0, vb_X1_linesIn_0, some 5), (5, vb_X1_linesIn_5, some 28), (28, vb_X1_linesIn_28, some 34), (34, vb_X1_linesIn_34, none)]
theorem xc_X1_linesIn : xOK kd_X1_linesIn xm_X1_linesIn := ⟨ve_X1_linesIn_0, ve_X1_linesIn_5, ve_X1_linesIn_28, ve_X1_linesIn_34, trivial⟩
theorem xa_X1_linesIn : xm_X1_linesIn.all (fun q => aOKb q.2.1 && !q.2.1.isEmpty) = true := by decide +kernel
theorem xw_X1_linesIn_0 {E : xE} {res : xR} {N : Nat} {hd : List Nat} {C : xCT} {k : Nat} {L : List Int} {st : List pv} {H : PH} : xW E res N kd_X1_linesIn xm_X1_linesIn hd C (k + 1) 0 L st H = xB (fun t L st H => if t ∈ hd then xJ E res N kd_X1_linesIn t L st H else xW E res N kd_X1_linesIn xm_X1_linesIn hd C k t L st H) (REPR E res) C (some 5) vb_X1_linesIn_0 0 L st H := Eq.trans rfl rfl
theorem xw_X1_linesIn_5 {E : xE} {res : xR} {N : Nat} {hd : List Nat} {C : xCT} {k : Nat} {L : List Int} {st : List pv} {H : PH} : xW E res N kd_X1_linesIn xm_X1_linesIn hd C (k + 1) 5 L st H = xB (fun t L st H => if t ∈ hd then xJ E res N kd_X1_linesIn t L st H else xW E res N kd_X1_linesIn xm_X1_linesIn hd C k t L st H) (REPR E res) C (some 28) vb_X1_linesIn_5 5 L st H := Eq.trans rfl rfl
theorem xw_X1_linesIn_28 {E : xE} {res : xR} {N : Nat} {hd : List Nat} {C : xCT} {k : Nat} {L : List Int} {st : List pv} {H : PH} : xW E res N kd_X1_linesIn xm_X1_linesIn hd C (k + 1) 28 L st H = xB (fun t L st H => if t ∈ hd then xJ E res N kd_X1_linesIn t L st H else xW E res N kd_X1_linesIn xm_X1_linesIn hd C k t L st H) (REPR E res) C (some 34) vb_X1_linesIn_28 28 L st H := Eq.trans rfl rfl
theorem xw_X1_linesIn_34 {E : xE} {res : xR} {N : Nat} {hd : List Nat} {C : xCT} {k : Nat} {L : List Int} {st : List pv} {H : PH} : xW E res N kd_X1_linesIn xm_X1_linesIn hd C (k + 1) 34 L st H = xB (fun t L st H => if t ∈ hd then xJ E res N kd_X1_linesIn t L st H else xW E res N kd_X1_linesIn xm_X1_linesIn hd C k t L st H) (REPR E res) C (none) vb_X1_linesIn_34 34 L st H := Eq.trans rfl rfl
def xm_X1_marksIn : List xbT := [(0, vb_X1_marksIn_0, some 4), (4, vb_X1_marksIn_4, some 37), (37, vb_X1_marksIn_37, some 43), (43, vb_X1_marksIn_43, none)]
theorem xc_X1_marksIn : xOK kd_X1_marksIn xm_X1_marksIn := ⟨ve_X1_marksIn_0, ve_X1_marksIn_4, ve_X1_marksIn_37, ve_X1_marksIn_43, trivial⟩
theorem xa_X1_marksIn : xm_X1_marksIn.all (fun q => aOKb q.2.1 && !q.2.1.isEmpty) = true := by decide +kernel
theorem xw_X1_marksIn_0 {E : xE} {res : xR} {N : Nat} {hd : List Nat} {C : xCT} {k : Nat} {L : List Int} {st : List pv} {H : PH} : xW E res N kd_X1_marksIn xm_X1_marksIn hd C (k + 1) 0 L st H = xB (fun t L st H => if t ∈ hd then xJ E res N kd_X1_marksIn t L st H else xW E res N kd_X1_marksIn xm_X1_marksIn hd C k t L st H) (REPR E res) C (some 4) vb_X1_marksIn_0 0 L st H := Eq.trans rfl rfl
theorem xw_X1_marksIn_4 {E : xE} {res : xR} {N : Nat} {hd : List Nat} {C : xCT} {k : Nat} {L : List Int} {st : List pv} {H : PH} : xW E res N kd_X1_marksIn xm_X1_marksIn hd C (k + 1) 4 L st H = xB (fun t L st H => if t ∈ hd then xJ E res N kd_X1_marksIn t L st H else xW E res N kd_X1_marksIn xm_X1_marksIn hd C k t L st H) (REPR E res) C (some 37) vb_X1_marksIn_4 4 L st H := Eq.trans rfl rfl
theorem xw_X1_marksIn_37 {E : xE} {res : xR} {N : Nat} {hd : List Nat} {C : xCT} {k : Nat} {L : List Int} {st : List pv} {H : PH} : xW E res N kd_X1_marksIn xm_X1_marksIn hd C (k + 1) 37 L st H = xB (fun t L st H => if t ∈ hd then xJ E res N kd_X1_marksIn t L st H else xW E res N kd_X1_marksIn xm_X1_marksIn hd C k t L st H) (REPR E res) C (some 43) vb_X1_marksIn_37 37 L st H := Eq.trans rfl rfl
theorem xw_X1_marksIn_43 {E : xE} {res : xR} {N : Nat} {hd : List Nat} {C : xCT} {k : Nat} {L : List Int} {st : List pv} {H : PH} : xW E res N kd_X1_marksIn xm_X1_marksIn hd C (k + 1) 43 L st H = xB (fun t L st H => if t ∈ hd then xJ E res N kd_X1_marksIn t L st H else xW E res N kd_X1_marksIn xm_X1_marksIn hd C k t L st H) (REPR E res) C (none) vb_X1_marksIn_43 43 L st H := Eq.trans rfl rfl
def xm_X1_firstSeen : List xbT := [(0, vb_X1_firstSeen_0, some 2), (2, vb_X1_firstSeen_2, some 44), (44, vb_X1_firstSeen_44, some 50), (50, vb_X1_firstSeen_50, none)]
theorem xc_X1_firstSeen : xOK kd_X1_firstSeen xm_X1_firstSeen := ⟨ve_X1_firstSeen_0, ve_X1_firstSeen_2, ve_X1_firstSeen_44, ve_X1_firstSeen_50, trivial⟩
theorem xa_X1_firstSeen : xm_X1_firstSeen.all (fun q => aOKb q.2.1 && !q.2.1.isEmpty) = true := by decide +kernel
theorem xw_X1_firstSeen_0 {E : xE} {res : xR} {N : Nat} {hd : List Nat} {C : xCT} {k : Nat} {L : List Int} {st : List pv} {H : PH} : xW E res N kd_X1_firstSeen xm_X1_firstSeen hd C (k + 1) 0 L st H = xB (fun t L st H => if t ∈ hd then xJ E res N kd_X1_firstSeen t L st H else xW E res N kd_X1_firstSeen xm_X1_firstSeen hd C k t L st H) (REPR E res) C (some 2) vb_X1_firstSeen_0 0 L st H := Eq.trans rfl rfl
theorem xw_X1_firstSeen_2 {E : xE} {res : xR} {N : Nat} {hd : List Nat} {C : xCT} {k : Nat} {L : List Int} {st : List pv} {H : PH} : xW E res N kd_X1_firstSeen xm_X1_firstSeen hd C (k + 1) 2 L st H = xB (fun t L st H => if t ∈ hd then xJ E res N kd_X1_firstSeen t L st H else xW E res N kd_X1_firstSeen xm_X1_firstSeen hd C k t L st H) (REPR E res) C (some 44) vb_X1_firstSeen_2 2 L st H := Eq.trans rfl rfl
theorem xw_X1_firstSeen_44 {E : xE} {res : xR} {N : Nat} {hd : List Nat} {C : xCT} {k : Nat} {L : List Int} {st : List pv} {H : PH} : xW E res N kd_X1_firstSeen xm_X1_firstSeen hd C (k + 1) 44 L st H = xB (fun t L st H => if t ∈ hd then xJ E res N kd_X1_firstSeen t L st H else xW E res N kd_X1_firstSeen xm_X1_firstSeen hd C k t L st H) (REPR E res) C (some 50) vb_X1_firstSeen_44 44 L st H := Eq.trans rfl rfl
theorem xw_X1_firstSeen_50 {E : xE} {res : xR} {N : Nat} {hd : List Nat} {C : xCT} {k : Nat} {L : List Int} {st : List pv} {H : PH} : xW E res N kd_X1_firstSeen xm_X1_firstSeen hd C (k + 1) 50 L st H = xB (fun t L st H => if t ∈ hd then xJ E res N kd_X1_firstSeen t L st H else xW E res N kd_X1_firstSeen xm_X1_firstSeen hd C k t L st H) (REPR E res) C (none) vb_X1_firstSeen_50 50 L st H := Eq.trans rfl rfl
def xm_X9_unreadIn : List xbT := [(0, vb_X9_unreadIn_0, some 4), (4, vb_X9_unreadIn_4, some 43), (43, vb_X9_unreadIn_43, some 49), (49, vb_X9_unreadIn_49, none)]
theorem xc_X9_unreadIn : xOK kd_X9_unreadIn xm_X9_unreadIn := ⟨ve_X9_unreadIn_0, ve_X9_unreadIn_4, ve_X9_unreadIn_43, ve_X9_unreadIn_49, trivial⟩
theorem xa_X9_unreadIn : xm_X9_unreadIn.all (fun q => aOKb q.2.1 && !q.2.1.isEmpty) = true := by decide +kernel
theorem xw_X9_unreadIn_0 {E : xE} {res : xR} {N : Nat} {hd : List Nat} {C : xCT} {k : Nat} {L : List Int} {st : List pv} {H : PH} : xW E res N kd_X9_unreadIn xm_X9_unreadIn hd C (k + 1) 0 L st H = xB (fun t L st H => if t ∈ hd then xJ E res N kd_X9_unreadIn t L st H else xW E res N kd_X9_unreadIn xm_X9_unreadIn hd C k t L st H) (REPR E res) C (some 4) vb_X9_unreadIn_0 0 L st H := Eq.trans rfl rfl
theorem xw_X9_unreadIn_4 {E : xE} {res : xR} {N : Nat} {hd : List Nat} {C : xCT} {k : Nat} {L : List Int} {st : List pv} {H : PH} : xW E res N kd_X9_unreadIn xm_X9_unreadIn hd C (k + 1) 4 L st H = xB (fun t L st H => if t ∈ hd then xJ E res N kd_X9_unreadIn t L st H else xW E res N kd_X9_unreadIn xm_X9_unreadIn hd C k t L st H) (REPR E res) C (some 43) vb_X9_unreadIn_4 4 L st H := Eq.trans rfl rfl
theorem xw_X9_unreadIn_43 {E : xE} {res : xR} {N : Nat} {hd : List Nat} {C : xCT} {k : Nat} {L : List Int} {st : List pv} {H : PH} : xW E res N kd_X9_unreadIn xm_X9_unreadIn hd C (k + 1) 43 L st H = xB (fun t L st H => if t ∈ hd then xJ E res N kd_X9_unreadIn t L st H else xW E res N kd_X9_unreadIn xm_X9_unreadIn hd C k t L st H) (REPR E res) C (some 49) vb_X9_unreadIn_43 43 L st H := Eq.trans rfl rfl
theorem xw_X9_unreadIn_49 {E : xE} {res : xR} {N : Nat} {hd : List Nat} {C : xCT} {k : Nat} {L : List Int} {st : List pv} {H : PH} : xW E res N kd_X9_unreadIn xm_X9_unreadIn hd C (k + 1) 49 L st H = xB (fun t L st H => if t ∈ hd then xJ E res N kd_X9_unreadIn t L st H else xW E res N kd_X9_unreadIn xm_X9_unreadIn hd C k t L st H) (REPR E res) C (none) vb_X9_unreadIn_49 49 L st H := Eq.trans rfl rfl
def xm_X1_surplusIn : List xbT := [(0, vb_X1_surplusIn_0, none)]
theorem xc_X1_surplusIn : xOK kd_X1_surplusIn xm_X1_surplusIn := ⟨ve_X1_surplusIn_0, trivial⟩
theorem xa_X1_surplusIn : xm_X1_surplusIn.all (fun q => aOKb q.2.1 && !q.2.1.isEmpty) = true := by decide +kernel
theorem xw_X1_surplusIn_0 {E : xE} {res : xR} {N : Nat} {hd : List Nat} {C : xCT} {k : Nat} {L : List Int} {st : List pv} {H : PH} : xW E res N kd_X1_surplusIn xm_X1_surplusIn hd C (k + 1) 0 L st H = xB (fun t L st H => if t ∈ hd then xJ E res N kd_X1_surplusIn t L st H else xW E res N kd_X1_surplusIn xm_X1_surplusIn hd C k t L st H) (REPR E res) C (none) vb_X1_surplusIn_0 0 L st H := Eq.trans rfl rfl
def xm_X11_close : List xbT := [(0, vb_X11_close_0, some 18), (18, vb_X11_close_18, some 21), (21, vb_X11_close_21, none)]
theorem xc_X11_close : xOK kd_X11_close xm_X11_close := ⟨ve_X11_close_0, ve_X11_close_18, ve_X11_close_21, trivial⟩
theorem xa_X11_close : xm_X11_close.all (fun q => aOKb q.2.1 && !q.2.1.isEmpty) = true := by decide +kernel
theorem xw_X11_close_0 {E : xE} {res : xR} {N : Nat} {hd : List Nat} {C : xCT} {k : Nat} {L : List Int} {st : List pv} {H : PH} : xW E res N kd_X11_close xm_X11_close hd C (k + 1) 0 L st H = xB (fun t L st H => if t ∈ hd then xJ E res N kd_X11_close t L st H else xW E res N kd_X11_close xm_X11_close hd C k t L st H) (REPR E res) C (some 18) vb_X11_close_0 0 L st H := Eq.trans rfl rfl
theorem xw_X11_close_18 {E : xE} {res : xR} {N : Nat} {hd : List Nat} {C : xCT} {k : Nat} {L : List Int} {st : List pv} {H : PH} : xW E res N kd_X11_close xm_X11_close hd C (k + 1) 18 L st H = xB (fun t L st H => if t ∈ hd then xJ E res N kd_X11_close t L st H else xW E res N kd_X11_close xm_X11_close hd C k t L st H) (REPR E res) C (some 21) vb_X11_close_18 18 L st H := Eq.trans rfl rfl
theorem xw_X11_close_21 {E : xE} {res : xR} {N : Nat} {hd : List Nat} {C : xCT} {k : Nat} {L : List Int} {st : List pv} {H : PH} : xW E res N kd_X11_close xm_X11_close hd C (k + 1) 21 L st H = xB (fun t L st H => if t ∈ hd then xJ E res N kd_X11_close t L st H else xW E res N kd_X11_close xm_X11_close hd C k t L st H) (REPR E res) C (none) vb_X11_close_21 21 L st H := Eq.trans rfl rfl
def xm_X9_linesThatAre : List xbT := [(0, vb_X9_linesThatAre_0, some 4), (4, vb_X9_linesThatAre_4, some 32), (32, vb_X9_linesThatAre_32, some 38), (38, vb_X9_linesThatAre_38, none)]
theorem xc_X9_linesThatAre : xOK kd_X9_linesThatAre xm_X9_linesThatAre := ⟨ve_X9_linesThatAre_0, ve_X9_linesThatAre_4, ve_X9_linesThatAre_32, ve_X9_linesThatAre_38, trivial⟩
theorem xa_X9_linesThatAre : xm_X9_linesThatAre.all (fun q => aOKb q.2.1 && !q.2.1.isEmpty) = true := by decide +kernel
theorem xw_X9_linesThatAre_0 {E : xE} {res : xR} {N : Nat} {hd : List Nat} {C : xCT} {k : Nat} {L : List Int} {st : List pv} {H : PH} : xW E res N kd_X9_linesThatAre xm_X9_linesThatAre hd C (k + 1) 0 L st H = xB (fun t L st H => if t ∈ hd then xJ E res N kd_X9_linesThatAre t L st H else xW E res N kd_X9_linesThatAre xm_X9_linesThatAre hd C k t L st H) (REPR E res) C (some 4) vb_X9_linesThatAre_0 0 L st H := Eq.trans rfl rfl
theorem xw_X9_linesThatAre_4 {E : xE} {res : xR} {N : Nat} {hd : List Nat} {C : xCT} {k : Nat} {L : List Int} {st : List pv} {H : PH} : xW E res N kd_X9_linesThatAre xm_X9_linesThatAre hd C (k + 1) 4 L st H = xB (fun t L st H => if t ∈ hd then xJ E res N kd_X9_linesThatAre t L st H else xW E res N kd_X9_linesThatAre xm_X9_linesThatAre hd C k t L st H) (REPR E res) C (some 32) vb_X9_linesThatAre_4 4 L st H := Eq.trans rfl rfl
theorem xw_X9_linesThatAre_32 {E : xE} {res : xR} {N : Nat} {hd : List Nat} {C : xCT} {k : Nat} {L : List Int} {st : List pv} {H : PH} : xW E res N kd_X9_linesThatAre xm_X9_linesThatAre hd C (k + 1) 32 L st H = xB (fun t L st H => if t ∈ hd then xJ E res N kd_X9_linesThatAre t L st H else xW E res N kd_X9_linesThatAre xm_X9_linesThatAre hd C k t L st H) (REPR E res) C (some 38) vb_X9_linesThatAre_32 32 L st H := Eq.trans rfl rfl
theorem xw_X9_linesThatAre_38 {E : xE} {res : xR} {N : Nat} {hd : List Nat} {C : xCT} {k : Nat} {L : List Int} {st : List pv} {H : PH} : xW E res N kd_X9_linesThatAre xm_X9_linesThatAre hd C (k + 1) 38 L st H = xB (fun t L st H => if t ∈ hd then xJ E res N kd_X9_linesThatAre t L st H else xW E res N kd_X9_linesThatAre xm_X9_linesThatAre hd C k t L st H) (REPR E res) C (none) vb_X9_linesThatAre_38 38 L st H := Eq.trans rfl rfl
def xm_X11_is : List xbT := [(0, vb_X11_is_0, some 80), (80, vb_X11_is_80, some 88), (88, vb_X11_is_88, some 96), (96, vb_X11_is_96, some 107), (107, vb_X11_is_107, some 115), (115, vb_X11_is_115, some 123), (123, vb_X11_is_123, some 131), (131, vb_X11_is_131, some 139), (139, vb_X11_is_139, some 144), (144, vb_X11_is_144, some 152), (152, vb_X11_is_152, some 161), (161, vb_X11_is_161, some 171), (171, vb_X11_is_171, some 181), (181, vb_X11_is_181, some 189), (189, vb_X11_is_189, some 197), (197, vb_X11_is_197, none)]
theorem xc_X11_is : xOK kd_X11_is xm_X11_is := ⟨ve_X11_is_0, ve_X11_is_80, ve_X11_is_88, ve_X11_is_96, ve_X11_is_107, ve_X11_is_115, ve_X11_is_123, ve_X11_is_131, ve_X11_is_139, ve_X11_is_144, ve_X11_is_152, ve_X11_is_161, ve_X11_is_171, ve_X11_is_181, ve_X11_is_189, ve_X11_is_197, trivial⟩
theorem xa_X11_is : xm_X11_is.all (fun q => aOKb q.2.1 && !q.2.1.isEmpty) = true := by decide +kernel
theorem xw_X11_is_0 {E : xE} {res : xR} {N : Nat} {hd : List Nat} {C : xCT} {k : Nat} {L : List Int} {st : List pv} {H : PH} : xW E res N kd_X11_is xm_X11_is hd C (k + 1) 0 L st H = xB (fun t L st H => if t ∈ hd then xJ E res N kd_X11_is t L st H else xW E res N kd_X11_is xm_X11_is hd C k t L st H) (REPR E res) C (some 80) vb_X11_is_0 0 L st H := Eq.trans rfl rfl
theorem xw_X11_is_80 {E : xE} {res : xR} {N : Nat} {hd : List Nat} {C : xCT} {k : Nat} {L : List Int} {st : List pv} {H : PH} : xW E res N kd_X11_is xm_X11_is hd C (k + 1) 80 L st H = xB (fun t L st H => if t ∈ hd then xJ E res N kd_X11_is t L st H else xW E res N kd_X11_is xm_X11_is hd C k t L st H) (REPR E res) C (some 88) vb_X11_is_80 80 L st H := Eq.trans rfl rfl
theorem xw_X11_is_88 {E : xE} {res : xR} {N : Nat} {hd : List Nat} {C : xCT} {k : Nat} {L : List Int} {st : List pv} {H : PH} : xW E res N kd_X11_is xm_X11_is hd C (k + 1) 88 L st H = xB (fun t L st H => if t ∈ hd then xJ E res N kd_X11_is t L st H else xW E res N kd_X11_is xm_X11_is hd C k t L st H) (REPR E res) C (some 96) vb_X11_is_88 88 L st H := Eq.trans rfl rfl
theorem xw_X11_is_96 {E : xE} {res : xR} {N : Nat} {hd : List Nat} {C : xCT} {k : Nat} {L : List Int} {st : List pv} {H : PH} : xW E res N kd_X11_is xm_X11_is hd C (k + 1) 96 L st H = xB (fun t L st H => if t ∈ hd then xJ E res N kd_X11_is t L st H else xW E res N kd_X11_is xm_X11_is hd C k t L st H) (REPR E res) C (some 107) vb_X11_is_96 96 L st H := Eq.trans rfl rfl
theorem xw_X11_is_107 {E : xE} {res : xR} {N : Nat} {hd : List Nat} {C : xCT} {k : Nat} {L : List Int} {st : List pv} {H : PH} : xW E res N kd_X11_is xm_X11_is hd C (k + 1) 107 L st H = xB (fun t L st H => if t ∈ hd then xJ E res N kd_X11_is t L st H else xW E res N kd_X11_is xm_X11_is hd C k t L st H) (REPR E res) C (some 115) vb_X11_is_107 107 L st H := Eq.trans rfl rfl
theorem xw_X11_is_115 {E : xE} {res : xR} {N : Nat} {hd : List Nat} {C : xCT} {k : Nat} {L : List Int} {st : List pv} {H : PH} : xW E res N kd_X11_is xm_X11_is hd C (k + 1) 115 L st H = xB (fun t L st H => if t ∈ hd then xJ E res N kd_X11_is t L st H else xW E res N kd_X11_is xm_X11_is hd C k t L st H) (REPR E res) C (some 123) vb_X11_is_115 115 L st H := Eq.trans rfl rfl
theorem xw_X11_is_123 {E : xE} {res : xR} {N : Nat} {hd : List Nat} {C : xCT} {k : Nat} {L : List Int} {st : List pv} {H : PH} : xW E res N kd_X11_is xm_X11_is hd C (k + 1) 123 L st H = xB (fun t L st H => if t ∈ hd then xJ E res N kd_X11_is t L st H else xW E res N kd_X11_is xm_X11_is hd C k t L st H) (REPR E res) C (some 131) vb_X11_is_123 123 L st H := Eq.trans rfl rfl
theorem xw_X11_is_131 {E : xE} {res : xR} {N : Nat} {hd : List Nat} {C : xCT} {k : Nat} {L : List Int} {st : List pv} {H : PH} : xW E res N kd_X11_is xm_X11_is hd C (k + 1) 131 L st H = xB (fun t L st H => if t ∈ hd then xJ E res N kd_X11_is t L st H else xW E res N kd_X11_is xm_X11_is hd C k t L st H) (REPR E res) C (some 139) vb_X11_is_131 131 L st H := Eq.trans rfl rfl
theorem xw_X11_is_139 {E : xE} {res : xR} {N : Nat} {hd : List Nat} {C : xCT} {k : Nat} {L : List Int} {st : List pv} {H : PH} : xW E res N kd_X11_is xm_X11_is hd C (k + 1) 139 L st H = xB (fun t L st H => if t ∈ hd then xJ E res N kd_X11_is t L st H else xW E res N kd_X11_is xm_X11_is hd C k t L st H) (REPR E res) C (some 144) vb_X11_is_139 139 L st H := Eq.trans rfl rfl
theorem xw_X11_is_144 {E : xE} {res : xR} {N : Nat} {hd : List Nat} {C : xCT} {k : Nat} {L : List Int} {st : List pv} {H : PH} : xW E res N kd_X11_is xm_X11_is hd C (k + 1) 144 L st H = xB (fun t L st H => if t ∈ hd then xJ E res N kd_X11_is t L st H else xW E res N kd_X11_is xm_X11_is hd C k t L st H) (REPR E res) C (some 152) vb_X11_is_144 144 L st H := Eq.trans rfl rfl
theorem xw_X11_is_152 {E : xE} {res : xR} {N : Nat} {hd : List Nat} {C : xCT} {k : Nat} {L : List Int} {st : List pv} {H : PH} : xW E res N kd_X11_is xm_X11_is hd C (k + 1) 152 L st H = xB (fun t L st H => if t ∈ hd then xJ E res N kd_X11_is t L st H else xW E res N kd_X11_is xm_X11_is hd C k t L st H) (REPR E res) C (some 161) vb_X11_is_152 152 L st H := Eq.trans rfl rfl
theorem xw_X11_is_161 {E : xE} {res : xR} {N : Nat} {hd : List Nat} {C : xCT} {k : Nat} {L : List Int} {st : List pv} {H : PH} : xW E res N kd_X11_is xm_X11_is hd C (k + 1) 161 L st H = xB (fun t L st H => if t ∈ hd then xJ E res N kd_X11_is t L st H else xW E res N kd_X11_is xm_X11_is hd C k t L st H) (REPR E res) C (some 171) vb_X11_is_161 161 L st H := Eq.trans rfl rfl
theorem xw_X11_is_171 {E : xE} {res : xR} {N : Nat} {hd : List Nat} {C : xCT} {k : Nat} {L : List Int} {st : List pv} {H : PH} : xW E res N kd_X11_is xm_X11_is hd C (k + 1) 171 L st H = xB (fun t L st H => if t ∈ hd then xJ E res N kd_X11_is t L st H else xW E res N kd_X11_is xm_X11_is hd C k t L st H) (REPR E res) C (some 181) vb_X11_is_171 171 L st H := Eq.trans rfl rfl
theorem xw_X11_is_181 {E : xE} {res : xR} {N : Nat} {hd : List Nat} {C : xCT} {k : Nat} {L : List Int} {st : List pv} {H : PH} : xW E res N kd_X11_is xm_X11_is hd C (k + 1) 181 L st H = xB (fun t L st H => if t ∈ hd then xJ E res N kd_X11_is t L st H else xW E res N kd_X11_is xm_X11_is hd C k t L st H) (REPR E res) C (some 189) vb_X11_is_181 181 L st H := Eq.trans rfl rfl
theorem xw_X11_is_189 {E : xE} {res : xR} {N : Nat} {hd : List Nat} {C : xCT} {k : Nat} {L : List Int} {st : List pv} {H : PH} : xW E res N kd_X11_is xm_X11_is hd C (k + 1) 189 L st H = xB (fun t L st H => if t ∈ hd then xJ E res N kd_X11_is t L st H else xW E res N kd_X11_is xm_X11_is hd C k t L st H) (REPR E res) C (some 197) vb_X11_is_189 189 L st H := Eq.trans rfl rfl
theorem xw_X11_is_197 {E : xE} {res : xR} {N : Nat} {hd : List Nat} {C : xCT} {k : Nat} {L : List Int} {st : List pv} {H : PH} : xW E res N kd_X11_is xm_X11_is hd C (k + 1) 197 L st H = xB (fun t L st H => if t ∈ hd then xJ E res N kd_X11_is t L st H else xW E res N kd_X11_is xm_X11_is hd C k t L st H) (REPR E res) C (none) vb_X11_is_197 197 L st H := Eq.trans rfl rfl
/-! ===== queries of the class: holds, what is counted ===== -/
/-- a sum over lines from k on -/
def fdS (f : Int → Int) : Nat → Int → Int → Int
  | 0, _, v => v
  | n + 1, k, v => fdS f n (k + 1) (v + f k)
theorem fdS_in {f : Int → Int} {m : Int} (h : ∀ k, 0 ≤ f k ∧ f k ≤ m) : ∀ (n : Nat) (k v : Int), v ≤ fdS f n k v ∧ fdS f n k v ≤ v + n * m
  | 0, k, v => ⟨Int.le_refl _, by show v ≤ v + (0 : Int) * m; omega⟩
  | n + 1, k, v => by
    unfold fdS
    obtain ⟨a, b⟩ := fdS_in h n (k + 1) (v + f k)
    have c := h k
    have e : ((n + 1 : Nat) : Int) * m = n * m + m := by rw [show ((n + 1 : Nat) : Int) = n + 1 by omega, Int.add_mul, Int.one_mul]
    rw [e]
    omega
/-- a line of a hold and a side -/
def lnI (A : Int → Int) (h d k : Int) : Prop := A (404 + 12 * k + 1) = h ∧ A (404 + 12 * k) = d
def blQ (A : Int → Int) (h d : Int) : Int := fdS (fun k => if A (404 + 12 * k + 1) = h ∧ A (404 + 12 * k) = d then max 0 (min 999 (A (404 + 12 * k + 2))) else 0) (A 2).toNat 0 0
def lnQ (A : Int → Int) (h d : Int) : Int := fdS (fun k => if A (404 + 12 * k + 1) = h ∧ A (404 + 12 * k) = d then 1 else 0) (A 2).toNat 0 0
theorem blQ_in (A : Int → Int) (h d : Int) (hA : 0 ≤ A 2 ∧ A 2 ≤ 60) : 0 ≤ blQ A h d ∧ blQ A h d ≤ 59940 := by
  have := fdS_in (f := fun k => if A (404 + 12 * k + 1) = h ∧ A (404 + 12 * k) = d then max 0 (min 999 (A (404 + 12 * k + 2))) else 0) (m := 999) (fun k => by
    by_cases c : A (404 + 12 * k + 1) = h ∧ A (404 + 12 * k) = d
    · rw [if_pos c]
      omega
    · rw [if_neg c]
      decide) (A 2).toNat 0 0
  unfold blQ
  omega
set_option maxRecDepth 100000 in
theorem sp_X1_isIn (k h d : Int) (A : Int → Int) (H : PH) (hB : MB A) (ci : CI H A) (hk : 0 ≤ k ∧ k < A 2) : SPEC 26 [(2, 1), (0, k), (0, h), (0, d)] H (fun r H' => r = some (0, xb1 (A (404 + 12 * k + 1) = h ∧ A (404 + 12 * k) = d)) ∧ H' = H) := by
  intro E n res hh
  have a2 := hB.2.2.1
  have kq := ci.2.2.1 k hk.1 (by omega)
  have ln := ci.1.2.2.1 k hk.1 hk.2
  have f := (KL_f kq)
  have g0 : ∀ X : PH, gv X (H 47 k) 0 = X (H 47 k) 0 := f.2.1
  have g1 : ∀ X : PH, gv X (H 47 k) 1 = X (H 47 k) 1 := f.2.2.1
  have l0 := ln.1
  have l1 := ln.2.1
  by_cases c : A (404 + 12 * k + 1) = h
  · by_cases c2 : A (404 + 12 * k) = d
    · have hh := call_runP 4 vm_X1_isIn hh
      have hh := xw_top (hd := []) 5 xD6_ok xc_X1_isIn xa_X1_isIn (t := 0) rfl hh
      simp (maxDischargeDepth := 12) -implicitDefEqProofs [vb_X1_isIn_0, vb_X1_isIn_30, vb_X1_isIn_31, xI_0, xI_1, xI_7, xI_36, xI_44, xI_49, xI_53, xI_62, xw_X1_isIn_0, xw_X1_isIn_30, xw_X1_isIn_31, zw_lit, xB_c, xB_s, xB_n, i1_c, j2_c, k1_c, jJ_e, xlg, xls, xla, xpd, ppush, zw_m1, zw_m2, zw_m3, gf_1_3, gf_5_0, gf_5_1, tg_1_3, tg_5_0, tg_5_1, gv_1_3, xD1, xD2, xD3, xD4, xD5, xD6, xb1_0, gv47, g0, g1, ← l0, ← l1, c, c2] at hh
      exact ⟨_, _, hh, by unfold xb1; rw [if_pos ⟨c, c2⟩], rfl⟩
    · have hh := call_runP 4 vm_X1_isIn hh
      have hh := xw_top (hd := []) 5 xD6_ok xc_X1_isIn xa_X1_isIn (t := 0) rfl hh
      simp (maxDischargeDepth := 12) -implicitDefEqProofs [vb_X1_isIn_0, vb_X1_isIn_30, vb_X1_isIn_31, xI_0, xI_1, xI_7, xI_36, xI_44, xI_49, xI_53, xI_62, xw_X1_isIn_0, xw_X1_isIn_30, xw_X1_isIn_31, zw_lit, xB_c, xB_s, xB_n, i1_c, j2_c, k1_c, jJ_e, xlg, xls, xla, xpd, ppush, zw_m1, zw_m2, zw_m3, gf_1_3, gf_5_0, gf_5_1, tg_1_3, tg_5_0, tg_5_1, gv_1_3, xD1, xD2, xD3, xD4, xD5, xD6, xb1_0, gv47, g0, g1, ← l0, ← l1, c, c2] at hh
      exact ⟨_, _, hh, by unfold xb1; rw [if_neg (fun w => c2 w.2)], rfl⟩
  · have hh := call_runP 4 vm_X1_isIn hh
    have hh := xw_top (hd := []) 5 xD6_ok xc_X1_isIn xa_X1_isIn (t := 0) rfl hh
    simp (maxDischargeDepth := 12) -implicitDefEqProofs [vb_X1_isIn_0, vb_X1_isIn_30, vb_X1_isIn_31, xI_0, xI_1, xI_7, xI_36, xI_44, xI_49, xI_53, xI_62, xw_X1_isIn_0, xw_X1_isIn_30, xw_X1_isIn_31, zw_lit, xB_c, xB_s, xB_n, i1_c, j2_c, k1_c, jJ_e, xlg, xls, xla, xpd, ppush, zw_m1, zw_m2, zw_m3, gf_1_3, gf_5_0, gf_5_1, tg_1_3, tg_5_0, tg_5_1, gv_1_3, xD1, xD2, xD3, xD4, xD5, xD6, xb1_0, gv47, g0, g1, ← l0, ← l1, c] at hh
    exact ⟨_, _, hh, by unfold xb1; rw [if_neg (fun w => c w.1)], rfl⟩
set_option maxRecDepth 100000 in
theorem lp_bal (h d : Int) (A : Int → Int) (H : PH) (hB : MB A) (hX : OKX A) (ci : CI H A) {E : xE} {res : xR} : ∀ (n : Nat) (k v : Int), 0 ≤ k → k ≤ A 2 → 0 ≤ v → v ≤ 999 * k → RUN E res n kd_X1_balesIn (zget kd_X1_balesIn 5) 5 [1, h, d, v, k] [] H → REPR E res (some (0, fdS (fun k => if A (404 + 12 * k + 1) = h ∧ A (404 + 12 * k) = d then max 0 (min 999 (A (404 + 12 * k + 2))) else 0) (A 2 - k).toNat k v)) H := by
  intro n
  induction n using Nat.strongRecOn with
  | _ n ih =>
    intro k v k0 k1 v0 v1 hh
    have a2 := hB.2.2.1
    have e4 : H 1 4 = A 2 := ci.1.1.2.2.1.symm
    have z1 : zw (k + 1) = k + 1 := zw_lit (by omega) (by omega)
    by_cases c : k < A 2
    · have c' : ¬ A 2 ≤ k := by omega
      have kq := ci.2.2.1 k k0 (by omega)
      have ln := ci.1.2.2.1 k k0 c
      have f := (KL_f kq)
      have g2 : ∀ X : PH, gv X (H 47 k) 2 = X (H 47 k) 2 := f.2.2.2.1
      have l2 := ln.2.2.1
      have ox := (hX.2 k k0 c).2.2
      have zv : zw (v + A (404 + 12 * k + 2)) = v + A (404 + 12 * k + 2) := zw_lit (by omega) (by omega)
      have st : (A 2 - k).toNat = (A 2 - (k + 1)).toNat + 1 := by omega
      rw [st]
      unfold fdS
      have hh := xw_top (hd := [5]) 6 xD6_ok xc_X1_balesIn xa_X1_balesIn (t := 5) rfl hh
      simp (maxDischargeDepth := 12) -implicitDefEqProofs [vb_X1_balesIn_0, vb_X1_balesIn_5, vb_X1_balesIn_38, vb_X1_balesIn_44, xI_0, xI_1, xI_3, xI_6, xI_7, xI_14, xI_36, xI_37, xI_46, xI_49, xI_53, xI_61, xI_62, xw_X1_balesIn_0, xw_X1_balesIn_5, xw_X1_balesIn_38, xw_X1_balesIn_44, zw_lit, xB_c, xB_s, xB_n, i1_c, j2_c, k1_c, jJ_e, xlg, xls, xla, xpd, ppush, zw_m1, zw_m2, zw_m3, gf_1_3, gf_1_4, gf_5_2, tg_1_3, tg_1_4, tg_5_2, gv_1_3, gv_1_4, xD1, xD2, xD3, xD4, xD5, xD6, xb1_0, e4, c, c'] at hh
      obtain ⟨r, H1, ⟨rfl, rfl⟩, g⟩ := xc_use hh (sp_X1_isIn k h d A H hB ci ⟨k0, c⟩)
      by_cases q : A (404 + 12 * k + 1) = h ∧ A (404 + 12 * k) = d
      · have b1 : xb1 (A (404 + 12 * k + 1) = h ∧ A (404 + 12 * k) = d) = 1 := if_pos q
        rw [b1] at g
        simp (maxDischargeDepth := 12) -implicitDefEqProofs [vb_X1_balesIn_0, vb_X1_balesIn_5, vb_X1_balesIn_38, vb_X1_balesIn_44, xI_0, xI_1, xI_3, xI_6, xI_7, xI_14, xI_36, xI_37, xI_46, xI_49, xI_53, xI_61, xI_62, xw_X1_balesIn_0, xw_X1_balesIn_5, xw_X1_balesIn_38, xw_X1_balesIn_44, zw_lit, xB_c, xB_s, xB_n, i1_c, j2_c, k1_c, jJ_e, xlg, xls, xla, xpd, ppush, zw_m1, zw_m2, zw_m3, gf_1_3, gf_1_4, gf_5_2, tg_1_3, tg_1_4, tg_5_2, gv_1_3, gv_1_4, xD1, xD2, xD3, xD4, xD5, xD6, xb1_0, gv47, g2, ← l2, zv, z1] at g
        obtain ⟨m, hm, g⟩ := g
        rw [if_pos q, show max 0 (min 999 (A (404 + 12 * k + 2))) = A (404 + 12 * k + 2) by omega]
        exact ih m hm (k + 1) _ (by omega) (by omega) (by omega) (by omega) g
      · have b1 : xb1 (A (404 + 12 * k + 1) = h ∧ A (404 + 12 * k) = d) = 0 := if_neg q
        rw [b1] at g
        simp (maxDischargeDepth := 12) -implicitDefEqProofs [vb_X1_balesIn_0, vb_X1_balesIn_5, vb_X1_balesIn_38, vb_X1_balesIn_44, xI_0, xI_1, xI_3, xI_6, xI_7, xI_14, xI_36, xI_37, xI_46, xI_49, xI_53, xI_61, xI_62, xw_X1_balesIn_0, xw_X1_balesIn_5, xw_X1_balesIn_38, xw_X1_balesIn_44, zw_lit, xB_c, xB_s, xB_n, i1_c, j2_c, k1_c, jJ_e, xlg, xls, xla, xpd, ppush, zw_m1, zw_m2, zw_m3, gf_1_3, gf_1_4, gf_5_2, tg_1_3, tg_1_4, tg_5_2, gv_1_3, gv_1_4, xD1, xD2, xD3, xD4, xD5, xD6, xb1_0, z1] at g
        obtain ⟨m, hm, g⟩ := g
        rw [if_neg q, Int.add_zero]
        exact ih m hm (k + 1) _ (by omega) (by omega) (by omega) (by omega) g
    · have c' : A 2 ≤ k := by omega
      rw [show (A 2 - k).toNat = 0 by omega]
      have hh := xw_top (hd := [5]) 6 xD6_ok xc_X1_balesIn xa_X1_balesIn (t := 5) rfl hh
      simp (maxDischargeDepth := 12) -implicitDefEqProofs [vb_X1_balesIn_0, vb_X1_balesIn_5, vb_X1_balesIn_38, vb_X1_balesIn_44, xI_0, xI_1, xI_3, xI_6, xI_7, xI_14, xI_36, xI_37, xI_46, xI_49, xI_53, xI_61, xI_62, xw_X1_balesIn_0, xw_X1_balesIn_5, xw_X1_balesIn_38, xw_X1_balesIn_44, zw_lit, xB_c, xB_s, xB_n, i1_c, j2_c, k1_c, jJ_e, xlg, xls, xla, xpd, ppush, zw_m1, zw_m2, zw_m3, gf_1_3, gf_1_4, gf_5_2, tg_1_3, tg_1_4, tg_5_2, gv_1_3, gv_1_4, xD1, xD2, xD3, xD4, xD5, xD6, xb1_0, e4, c, c'] at hh
      exact hh
set_option maxRecDepth 100000 in
theorem sp_X1_balesIn (h d : Int) (A : Int → Int) (H : PH) (hB : MB A) (hX : OKX A) (ci : CI H A) : SPEC 21 [(2, 1), (0, h), (0, d)] H (fun r H' => r = some (0, blQ A h d) ∧ H' = H) := by
  intro E n res hh
  have hh := call_runP 5 vm_X1_balesIn hh
  have hh := xw_top (hd := [5]) 6 xD6_ok xc_X1_balesIn xa_X1_balesIn (t := 0) rfl hh
  simp (maxDischargeDepth := 12) -implicitDefEqProofs [vb_X1_balesIn_0, vb_X1_balesIn_5, vb_X1_balesIn_38, vb_X1_balesIn_44, xI_0, xI_1, xI_3, xI_6, xI_7, xI_14, xI_36, xI_37, xI_46, xI_49, xI_53, xI_61, xI_62, xw_X1_balesIn_0, xw_X1_balesIn_5, xw_X1_balesIn_38, xw_X1_balesIn_44, zw_lit, xB_c, xB_s, xB_n, i1_c, j2_c, k1_c, jJ_e, xlg, xls, xla, xpd, ppush, zw_m1, zw_m2, zw_m3, gf_1_3, gf_1_4, gf_5_2, tg_1_3, tg_1_4, tg_5_2, gv_1_3, gv_1_4, xD1, xD2, xD3, xD4, xD5, xD6, xb1_0] at hh
  obtain ⟨m, hm, hh⟩ := hh
  have g := lp_bal h d A H hB hX ci m 0 0 (by omega) hB.2.2.1.1 (by omega) (by omega) hh
  rw [Int.sub_zero] at g
  exact ⟨_, _, g, rfl, rfl⟩
set_option maxRecDepth 100000 in
theorem lp_lin (h d : Int) (A : Int → Int) (H : PH) (hB : MB A) (ci : CI H A) {E : xE} {res : xR} : ∀ (n : Nat) (k v : Int), 0 ≤ k → k ≤ A 2 → 0 ≤ v → v ≤ k → RUN E res n kd_X1_linesIn (zget kd_X1_linesIn 5) 5 [1, h, d, v, k] [] H → REPR E res (some (0, fdS (fun k => if A (404 + 12 * k + 1) = h ∧ A (404 + 12 * k) = d then 1 else 0) (A 2 - k).toNat k v)) H := by
  intro n
  induction n using Nat.strongRecOn with
  | _ n ih =>
    intro k v k0 k1 v0 v1 hh
    have a2 := hB.2.2.1
    have e4 : H 1 4 = A 2 := ci.1.1.2.2.1.symm
    have z1 : zw (k + 1) = k + 1 := zw_lit (by omega) (by omega)
    have zv : zw (v + 1) = v + 1 := zw_lit (by omega) (by omega)
    by_cases c : k < A 2
    · have c' : ¬ A 2 ≤ k := by omega
      have st : (A 2 - k).toNat = (A 2 - (k + 1)).toNat + 1 := by omega
      rw [st]
      unfold fdS
      have hh := xw_top (hd := [5]) 6 xD6_ok xc_X1_linesIn xa_X1_linesIn (t := 5) rfl hh
      simp (maxDischargeDepth := 12) -implicitDefEqProofs [vb_X1_linesIn_0, vb_X1_linesIn_5, vb_X1_linesIn_28, vb_X1_linesIn_34, xI_0, xI_1, xI_3, xI_6, xI_7, xI_36, xI_37, xI_46, xI_49, xI_61, xI_62, xw_X1_linesIn_0, xw_X1_linesIn_5, xw_X1_linesIn_28, xw_X1_linesIn_34, zw_lit, xB_c, xB_s, xB_n, i1_c, j2_c, k1_c, jJ_e, xlg, xls, xla, xpd, ppush, zw_m1, zw_m2, zw_m3, gf_1_4, tg_1_4, gv_1_4, xD1, xD2, xD3, xD4, xD5, xD6, xb1_0, e4, c, c'] at hh
      obtain ⟨r, H1, ⟨rfl, rfl⟩, g⟩ := xc_use hh (sp_X1_isIn k h d A H hB ci ⟨k0, c⟩)
      by_cases q : A (404 + 12 * k + 1) = h ∧ A (404 + 12 * k) = d
      · have b1 : xb1 (A (404 + 12 * k + 1) = h ∧ A (404 + 12 * k) = d) = 1 := if_pos q
        rw [b1] at g
        simp (maxDischargeDepth := 12) -implicitDefEqProofs [vb_X1_linesIn_0, vb_X1_linesIn_5, vb_X1_linesIn_28, vb_X1_linesIn_34, xI_0, xI_1, xI_3, xI_6, xI_7, xI_36, xI_37, xI_46, xI_49, xI_61, xI_62, xw_X1_linesIn_0, xw_X1_linesIn_5, xw_X1_linesIn_28, xw_X1_linesIn_34, zw_lit, xB_c, xB_s, xB_n, i1_c, j2_c, k1_c, jJ_e, xlg, xls, xla, xpd, ppush, zw_m1, zw_m2, zw_m3, gf_1_4, tg_1_4, gv_1_4, xD1, xD2, xD3, xD4, xD5, xD6, xb1_0, zv, z1] at g
        obtain ⟨m, hm, g⟩ := g
        rw [if_pos q]
        exact ih m hm (k + 1) _ (by omega) (by omega) (by omega) (by omega) g
      · have b1 : xb1 (A (404 + 12 * k + 1) = h ∧ A (404 + 12 * k) = d) = 0 := if_neg q
        rw [b1] at g
        simp (maxDischargeDepth := 12) -implicitDefEqProofs [vb_X1_linesIn_0, vb_X1_linesIn_5, vb_X1_linesIn_28, vb_X1_linesIn_34, xI_0, xI_1, xI_3, xI_6, xI_7, xI_36, xI_37, xI_46, xI_49, xI_61, xI_62, xw_X1_linesIn_0, xw_X1_linesIn_5, xw_X1_linesIn_28, xw_X1_linesIn_34, zw_lit, xB_c, xB_s, xB_n, i1_c, j2_c, k1_c, jJ_e, xlg, xls, xla, xpd, ppush, zw_m1, zw_m2, zw_m3, gf_1_4, tg_1_4, gv_1_4, xD1, xD2, xD3, xD4, xD5, xD6, xb1_0, z1] at g
        obtain ⟨m, hm, g⟩ := g
        rw [if_neg q, Int.add_zero]
        exact ih m hm (k + 1) _ (by omega) (by omega) (by omega) (by omega) g
    · have c' : A 2 ≤ k := by omega
      rw [show (A 2 - k).toNat = 0 by omega]
      have hh := xw_top (hd := [5]) 6 xD6_ok xc_X1_linesIn xa_X1_linesIn (t := 5) rfl hh
      simp (maxDischargeDepth := 12) -implicitDefEqProofs [vb_X1_linesIn_0, vb_X1_linesIn_5, vb_X1_linesIn_28, vb_X1_linesIn_34, xI_0, xI_1, xI_3, xI_6, xI_7, xI_36, xI_37, xI_46, xI_49, xI_61, xI_62, xw_X1_linesIn_0, xw_X1_linesIn_5, xw_X1_linesIn_28, xw_X1_linesIn_34, zw_lit, xB_c, xB_s, xB_n, i1_c, j2_c, k1_c, jJ_e, xlg, xls, xla, xpd, ppush, zw_m1, zw_m2, zw_m3, gf_1_4, tg_1_4, gv_1_4, xD1, xD2, xD3, xD4, xD5, xD6, xb1_0, e4, c, c'] at hh
      exact hh
set_option maxRecDepth 100000 in
theorem sp_X1_linesIn (h d : Int) (A : Int → Int) (H : PH) (hB : MB A) (ci : CI H A) : SPEC 22 [(2, 1), (0, h), (0, d)] H (fun r H' => r = some (0, lnQ A h d) ∧ H' = H) := by
  intro E n res hh
  have hh := call_runP 5 vm_X1_linesIn hh
  have hh := xw_top (hd := [5]) 6 xD6_ok xc_X1_linesIn xa_X1_linesIn (t := 0) rfl hh
  simp (maxDischargeDepth := 12) -implicitDefEqProofs [vb_X1_linesIn_0, vb_X1_linesIn_5, vb_X1_linesIn_28, vb_X1_linesIn_34, xI_0, xI_1, xI_3, xI_6, xI_7, xI_36, xI_37, xI_46, xI_49, xI_61, xI_62, xw_X1_linesIn_0, xw_X1_linesIn_5, xw_X1_linesIn_28, xw_X1_linesIn_34, zw_lit, xB_c, xB_s, xB_n, i1_c, j2_c, k1_c, jJ_e, xlg, xls, xla, xpd, ppush, zw_m1, zw_m2, zw_m3, gf_1_4, tg_1_4, gv_1_4, xD1, xD2, xD3, xD4, xD5, xD6, xb1_0] at hh
  obtain ⟨m, hm, hh⟩ := hh
  have g := lp_lin h d A H hB ci m 0 0 (by omega) hB.2.2.1.1 (by omega) (by omega) hh
  rw [Int.sub_zero] at g
  exact ⟨_, _, g, rfl, rfl⟩
set_option maxRecDepth 100000 in
theorem sp_X1_surplusIn (h : Int) (A : Int → Int) (H : PH) (hB : MB A) (hX : OKX A) (ci : CI H A) : SPEC 25 [(2, 1), (0, h)] H (fun r H' => r = some (0, blQ A h 0 - blQ A h 1) ∧ H' = H) := by
  intro E n res hh
  have b0 := blQ_in A h 0 hB.2.2.1
  have b1 := blQ_in A h 1 hB.2.2.1
  have zb : zw (blQ A h 0 - blQ A h 1) = blQ A h 0 - blQ A h 1 := zw_lit (by omega) (by omega)
  have hh := call_runP 2 vm_X1_surplusIn hh
  have hh := xw_top (hd := []) 3 xD6_ok xc_X1_surplusIn xa_X1_surplusIn (t := 0) rfl hh
  simp (maxDischargeDepth := 12) -implicitDefEqProofs [vb_X1_surplusIn_0, xI_0, xI_1, xI_7, xI_15, xI_61, xI_62, xw_X1_surplusIn_0, zw_lit, xB_c, xB_s, xB_n, i1_c, j2_c, k1_c, jJ_e, xlg, xls, xla, xpd, ppush, zw_m1, zw_m2, zw_m3, xD1, xD2, xD3, xD4, xD5, xD6, xb1_0] at hh
  obtain ⟨r, H1, ⟨rfl, rfl⟩, g⟩ := xc_use hh (sp_X1_balesIn h 0 A H hB hX ci)
  simp (maxDischargeDepth := 12) -implicitDefEqProofs [vb_X1_surplusIn_0, xI_0, xI_1, xI_7, xI_15, xI_61, xI_62, xw_X1_surplusIn_0, zw_lit, xB_c, xB_s, xB_n, i1_c, j2_c, k1_c, jJ_e, xlg, xls, xla, xpd, ppush, zw_m1, zw_m2, zw_m3, xD1, xD2, xD3, xD4, xD5, xD6, xb1_0] at g
  obtain ⟨r, H1, ⟨rfl, rfl⟩, g2⟩ := xc_use g (sp_X1_balesIn h 1 A _ hB hX ci)
  simp (maxDischargeDepth := 12) -implicitDefEqProofs [vb_X1_surplusIn_0, xI_0, xI_1, xI_7, xI_15, xI_61, xI_62, xw_X1_surplusIn_0, zw_lit, xB_c, xB_s, xB_n, i1_c, j2_c, k1_c, jJ_e, xlg, xls, xla, xpd, ppush, zw_m1, zw_m2, zw_m3, xD1, xD2, xD3, xD4, xD5, xD6, xb1_0, zb] at g2
  exact ⟨_, _, g2, rfl, rfl⟩
