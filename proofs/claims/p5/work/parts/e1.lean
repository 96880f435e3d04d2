theorem gf_7_0 : gfOK 7 0 = true := by decide +kernel
theorem gf_7_1 : gfOK 7 1 = true := by decide +kernel
theorem gf_7_2 : gfOK 7 2 = true := by decide +kernel
theorem gf_7_3 : gfOK 7 3 = true := by decide +kernel
theorem gf_7_4 : gfOK 7 4 = true := by decide +kernel
theorem gf_7_5 : gfOK 7 5 = true := by decide +kernel
theorem gf_7_6 : gfOK 7 6 = true := by decide +kernel
theorem gf_11_5 : gfOK 11 5 = true := by decide +kernel
theorem pf_7_3 : pfOK 7 3 = true := by decide +kernel
def xm_X11_settled : List xbT := [(0, vb_X11_settled_0, some 19), (19, vb_X11_settled_19, some 34), (34, vb_X11_settled_34, some 42), (42, vb_X11_settled_42, none)]
theorem xc_X11_settled : xOK kd_X11_settled xm_X11_settled := ⟨ve_X11_settled_0, ve_X11_settled_19, ve_X11_settled_34, ve_X11_settled_42, trivial⟩
theorem xa_X11_settled : xm_X11_settled.all (fun q => aOKb q.2.1 && !q.2.1.isEmpty) = true := by decide +kernel
theorem xw_X11_settled_0 {E : xE} {res : xR} {N : Nat} {hd : List Nat} {C : xCT} {k : Nat} {L : List Int} {st : List pv} {H : PH} : xW E res N kd_X11_settled xm_X11_settled hd C (k + 1) 0 L st H = xB (fun t L st H => if t ∈ hd then xJ E res N kd_X11_settled t L st H else xW E res N kd_X11_settled xm_X11_settled hd C k t L st H) (REPR E res) C (some 19) vb_X11_settled_0 0 L st H := Eq.trans rfl rfl
theorem xw_X11_settled_19 {E : xE} {res : xR} {N : Nat} {hd : List Nat} {C : xCT} {k : Nat} {L : List Int} {st : List pv} {H : PH} : xW E res N kd_X11_settled xm_X11_settled hd C (k + 1) 19 L st H = xB (fun t L st H => if t ∈ hd then xJ E res N kd_X11_settled t L st H else xW E res N kd_X11_settled xm_X11_settled hd C k t L st H) (REPR E res) C (some 34) vb_X11_settled_19 19 L st H := Eq.trans rfl rfl
theorem xw_X11_settled_34 {E : xE} {res : xR} {N : Nat} {hd : List Nat} {C : xCT} {k : Nat} {L : List Int} {st : List pv} {H : PH} : xW E res N kd_X11_settled xm_X11_settled hd C (k + 1) 34 L st H = xB (fun t L st H => if t ∈ hd then xJ E res N kd_X11_settled t L st H else xW E res N kd_X11_settled xm_X11_settled hd C k t L st H) (REPR E res) C (some 42) vb_X11_settled_34 34 L st H := Eq.trans rfl rfl
theorem xw_X11_settled_42 {E : xE} {res : xR} {N : Nat} {hd : List Nat} {C : xCT} {k : Nat} {L : List Int} {st : List pv} {H : PH} : xW E res N kd_X11_settled xm_X11_settled hd C (k + 1) 42 L st H = xB (fun t L st H => if t ∈ hd then xJ E res N kd_X11_settled t L st H else xW E res N kd_X11_settled xm_X11_settled hd C k t L st H) (REPR E res) C (none) vb_X11_settled_42 42 L st H := Eq.trans rfl rfl
def xm_X7_gather : List xbT := [(0, vb_X7_gather_0, some 21), (21, vb_X7_gather_21, some 28), (28, vb_X7_gather_28, some 81), (81, vb_X7_gather_81, some 87), (87, vb_X7_gather_87, some 89), (89, vb_X7_gather_89, some 109), (109, vb_X7_gather_109, some 139), (139, vb_X7_gather_139, some 140), (140, vb_X7_gather_140, some 148), (148, vb_X7_gather_148, some 159), (159, vb_X7_gather_159, none)]
theorem xc_X7_gather : xOK kd_X7_gather xm_X7_gather := ⟨ve_X7_gather_0, ve_X7_gather_21, ve_X7_gather_28, ve_X7_gather_81, ve_X7_gather_87, ve_X7_gather_89, ve_X7_gather_109, ve_X7_gather_139, ve_X7_gather_140, ve_X7_gather_148, ve_X7_gather_159, trivial⟩
theorem xa_X7_gather : xm_X7_gather.all (fun q => aOKb q.2.1 && !q.2.1.isEmpty) = true := by decide +kernel
theorem xw_X7_gather_0 {E : xE} {res : xR} {N : Nat} {hd : List Nat} {C : xCT} {k : Nat} {L : List Int} {st : List pv} {H : PH} : xW E res N kd_X7_gather xm_X7_gather hd C (k + 1) 0 L st H = xB (fun t L st H => if t ∈ hd then xJ E res N kd_X7_gather t L st H else xW E res N kd_X7_gather xm_X7_gather hd C k t L st H) (REPR E res) C (some 21) vb_X7_gather_0 0 L st H := Eq.trans rfl rfl
theorem xw_X7_gather_21 {E : xE} {res : xR} {N : Nat} {hd : List Nat} {C : xCT} {k : Nat} {L : List Int} {st : List pv} {H : PH} : xW E res N kd_X7_gather xm_X7_gather hd C (k + 1) 21 L st H = xB (fun t L st H => if t ∈ hd then xJ E res N kd_X7_gather t L st H else xW E res N kd_X7_gather xm_X7_gather hd C k t L st H) (REPR E res) C (some 28) vb_X7_gather_21 21 L st H := Eq.trans rfl rfl
theorem xw_X7_gather_28 {E : xE} {res : xR} {N : Nat} {hd : List Nat} {C : xCT} {k : Nat} {L : List Int} {st : List pv} {H : PH} : xW E res N kd_X7_gather xm_X7_gather hd C (k + 1) 28 L st H = xB (fun t L st H => if t ∈ hd then xJ E res N kd_X7_gather t L st H else xW E res N kd_X7_gather xm_X7_gather hd C k t L st H) (REPR E res) C (some 81) vb_X7_gather_28 28 L st H := Eq.trans rfl rfl
theorem xw_X7_gather_81 {E : xE} {res : xR} {N : Nat} {hd : List Nat} {C : xCT} {k : Nat} {L : List Int} {st : List pv} {H : PH} : xW E res N kd_X7_gather xm_X7_gather hd C (k + 1) 81 L st H = xB (fun t L st H => if t ∈ hd then xJ E res N kd_X7_gather t L st H else xW E res N kd_X7_gather xm_X7_gather hd C k t L st H) (REPR E res) C (some 87) vb_X7_gather_81 81 L st H := Eq.trans rfl rfl
theorem xw_X7_gather_87 {E : xE} {res : xR} {N : Nat} {hd : List Nat} {C : xCT} {k : Nat} {L : List Int} {st : List pv} {H : PH} : xW E res N kd_X7_gather xm_X7_gather hd C (k + 1) 87 L st H = xB (fun t L st H => if t ∈ hd then xJ E res N kd_X7_gather t L st H else xW E res N kd_X7_gather xm_X7_gather hd C k t L st H) (REPR E res) C (some 89) vb_X7_gather_87 87 L st H := Eq.trans rfl rfl
theorem xw_X7_gather_89 {E : xE} {res : xR} {N : Nat} {hd : List Nat} {C : xCT} {k : Nat} {L : List Int} {st : List pv} {H : PH} : xW E res N kd_X7_gather xm_X7_gather hd C (k + 1) 89 L st H = xB (fun t L st H => if t ∈ hd then xJ E res N kd_X7_gather t L st H else xW E res N kd_X7_gather xm_X7_gather hd C k t L st H) (REPR E res) C (some 109) vb_X7_gather_89 89 L st H := Eq.trans rfl rfl
theorem xw_X7_gather_109 {E : xE} {res : xR} {N : Nat} {hd : List Nat} {C : xCT} {k : Nat} {L : List Int} {st : List pv} {H : PH} : xW E res N kd_X7_gather xm_X7_gather hd C (k + 1) 109 L st H = xB (fun t L st H => if t ∈ hd then xJ E res N kd_X7_gather t L st H else xW E res N kd_X7_gather xm_X7_gather hd C k t L st H) (REPR E res) C (some 139) vb_X7_gather_109 109 L st H := Eq.trans rfl rfl
theorem xw_X7_gather_139 {E : xE} {res : xR} {N : Nat} {hd : List Nat} {C : xCT} {k : Nat} {L : List Int} {st : List pv} {H : PH} : xW E res N kd_X7_gather xm_X7_gather hd C (k + 1) 139 L st H = xB (fun t L st H => if t ∈ hd then xJ E res N kd_X7_gather t L st H else xW E res N kd_X7_gather xm_X7_gather hd C k t L st H) (REPR E res) C (some 140) vb_X7_gather_139 139 L st H := Eq.trans rfl rfl
theorem xw_X7_gather_140 {E : xE} {res : xR} {N : Nat} {hd : List Nat} {C : xCT} {k : Nat} {L : List Int} {st : List pv} {H : PH} : xW E res N kd_X7_gather xm_X7_gather hd C (k + 1) 140 L st H = xB (fun t L st H => if t ∈ hd then xJ E res N kd_X7_gather t L st H else xW E res N kd_X7_gather xm_X7_gather hd C k t L st H) (REPR E res) C (some 148) vb_X7_gather_140 140 L st H := Eq.trans rfl rfl
theorem xw_X7_gather_148 {E : xE} {res : xR} {N : Nat} {hd : List Nat} {C : xCT} {k : Nat} {L : List Int} {st : List pv} {H : PH} : xW E res N kd_X7_gather xm_X7_gather hd C (k + 1) 148 L st H = xB (fun t L st H => if t ∈ hd then xJ E res N kd_X7_gather t L st H else xW E res N kd_X7_gather xm_X7_gather hd C k t L st H) (REPR E res) C (some 159) vb_X7_gather_148 148 L st H := Eq.trans rfl rfl
theorem xw_X7_gather_159 {E : xE} {res : xR} {N : Nat} {hd : List Nat} {C : xCT} {k : Nat} {L : List Int} {st : List pv} {H : PH} : xW E res N kd_X7_gather xm_X7_gather hd C (k + 1) 159 L st H = xB (fun t L st H => if t ∈ hd then xJ E res N kd_X7_gather t L st H else xW E res N kd_X7_gather xm_X7_gather hd C k t L st H) (REPR E res) C (none) vb_X7_gather_159 159 L st H := Eq.trans rfl rfl
def xm_X7_isNearest : List xbT := [(0, vb_X7_isNearest_0, some 17), (17, vb_X7_isNearest_17, some 41), (41, vb_X7_isNearest_41, some 47), (47, vb_X7_isNearest_47, none)]
theorem xc_X7_isNearest : xOK kd_X7_isNearest xm_X7_isNearest := ⟨ve_X7_isNearest_0, ve_X7_isNearest_17, ve_X7_isNearest_41, ve_X7_isNearest_47, trivial⟩
theorem xa_X7_isNearest : xm_X7_isNearest.all (fun q => aOKb q.2.1 && !q.2.1.isEmpty) = true := by decide +kernel
theorem xw_X7_isNearest_0 {E : xE} {res : xR} {N : Nat} {hd : List Nat} {C : xCT} {k : Nat} {L : List Int} {st : List pv} {H : PH} : xW E res N kd_X7_isNearest xm_X7_isNearest hd C (k + 1) 0 L st H = xB (fun t L st H => if t ∈ hd then xJ E res N kd_X7_isNearest t L st H else xW E res N kd_X7_isNearest xm_X7_isNearest hd C k t L st H) (REPR E res) C (some 17) vb_X7_isNearest_0 0 L st H := Eq.trans rfl rfl
theorem xw_X7_isNearest_17 {E : xE} {res : xR} {N : Nat} {hd : List Nat} {C : xCT} {k : Nat} {L : List Int} {st : List pv} {H : PH} : xW E res N kd_X7_isNearest xm_X7_isNearest hd C (k + 1) 17 L st H = xB (fun t L st H => if t ∈ hd then xJ E res N kd_X7_isNearest t L st H else xW E res N kd_X7_isNearest xm_X7_isNearest hd C k t L st H) (REPR E res) C (some 41) vb_X7_isNearest_17 17 L st H := Eq.trans rfl rfl
theorem xw_X7_isNearest_41 {E : xE} {res : xR} {N : Nat} {hd : List Nat} {C : xCT} {k : Nat} {L : List Int} {st : List pv} {H : PH} : xW E res N kd_X7_isNearest xm_X7_isNearest hd C (k + 1) 41 L st H = xB (fun t L st H => if t ∈ hd then xJ E res N kd_X7_isNearest t L st H else xW E res N kd_X7_isNearest xm_X7_isNearest hd C k t L st H) (REPR E res) C (some 47) vb_X7_isNearest_41 41 L st H := Eq.trans rfl rfl
theorem xw_X7_isNearest_47 {E : xE} {res : xR} {N : Nat} {hd : List Nat} {C : xCT} {k : Nat} {L : List Int} {st : List pv} {H : PH} : xW E res N kd_X7_isNearest xm_X7_isNearest hd C (k + 1) 47 L st H = xB (fun t L st H => if t ∈ hd then xJ E res N kd_X7_isNearest t L st H else xW E res N kd_X7_isNearest xm_X7_isNearest hd C k t L st H) (REPR E res) C (none) vb_X7_isNearest_47 47 L st H := Eq.trans rfl rfl
def xm_X7_weigh : List xbT := [(0, vb_X7_weigh_0, some 18), (18, vb_X7_weigh_18, some 113), (113, vb_X7_weigh_113, some 119), (119, vb_X7_weigh_119, none)]
theorem xc_X7_weigh : xOK kd_X7_weigh xm_X7_weigh := ⟨ve_X7_weigh_0, ve_X7_weigh_18, ve_X7_weigh_113, ve_X7_weigh_119, trivial⟩
theorem xa_X7_weigh : xm_X7_weigh.all (fun q => aOKb q.2.1 && !q.2.1.isEmpty) = true := by decide +kernel
theorem xw_X7_weigh_0 {E : xE} {res : xR} {N : Nat} {hd : List Nat} {C : xCT} {k : Nat} {L : List Int} {st : List pv} {H : PH} : xW E res N kd_X7_weigh xm_X7_weigh hd C (k + 1) 0 L st H = xB (fun t L st H => if t ∈ hd then xJ E res N kd_X7_weigh t L st H else xW E res N kd_X7_weigh xm_X7_weigh hd C k t L st H) (REPR E res) C (some 18) vb_X7_weigh_0 0 L st H := Eq.trans rfl rfl
theorem xw_X7_weigh_18 {E : xE} {res : xR} {N : Nat} {hd : List Nat} {C : xCT} {k : Nat} {L : List Int} {st : List pv} {H : PH} : xW E res N kd_X7_weigh xm_X7_weigh hd C (k + 1) 18 L st H = xB (fun t L st H => if t ∈ hd then xJ E res N kd_X7_weigh t L st H else xW E res N kd_X7_weigh xm_X7_weigh hd C k t L st H) (REPR E res) C (some 113) vb_X7_weigh_18 18 L st H := Eq.trans rfl rfl
theorem xw_X7_weigh_113 {E : xE} {res : xR} {N : Nat} {hd : List Nat} {C : xCT} {k : Nat} {L : List Int} {st : List pv} {H : PH} : xW E res N kd_X7_weigh xm_X7_weigh hd C (k + 1) 113 L st H = xB (fun t L st H => if t ∈ hd then xJ E res N kd_X7_weigh t L st H else xW E res N kd_X7_weigh xm_X7_weigh hd C k t L st H) (REPR E res) C (some 119) vb_X7_weigh_113 113 L st H := Eq.trans rfl rfl
theorem xw_X7_weigh_119 {E : xE} {res : xR} {N : Nat} {hd : List Nat} {C : xCT} {k : Nat} {L : List Int} {st : List pv} {H : PH} : xW E res N kd_X7_weigh xm_X7_weigh hd C (k + 1) 119 L st H = xB (fun t L st H => if t ∈ hd then xJ E res N kd_X7_weigh t L st H else xW E res N kd_X7_weigh xm_X7_weigh hd C k t L st H) (REPR E res) C (none) vb_X7_weigh_119 119 L st H := Eq.trans rfl rfl
def xm_X7_balesOf : List xbT := [(0, vb_X7_balesOf_0, some 5), (5, vb_X7_balesOf_5, some 58), (58, vb_X7_balesOf_58, some 64), (64, vb_X7_balesOf_64, none)]
theorem xc_X7_balesOf : xOK kd_X7_balesOf xm_X7_balesOf := ⟨ve_X7_balesOf_0, ve_X7_balesOf_5, ve_X7_balesOf_58, ve_X7_balesOf_64, trivial⟩
theorem xa_X7_balesOf : xm_X7_balesOf.all (fun q => aOKb q.2.1 && !q.2.1.isEmpty) = true := by decide +kernel
theorem xw_X7_balesOf_0 {E : xE} {res : xR} {N : Nat} {hd : List Nat} {C : xCT} {k : Nat} {L : List Int} {st : List pv} {H : PH} : xW E res N kd_X7_balesOf xm_X7_balesOf hd C (k + 1) 0 L st H = xB (fun t L st H => if t ∈ hd then xJ E res N kd_X7_balesOf t L st H else xW E res N kd_X7_balesOf xm_X7_balesOf hd C k t L st H) (REPR E res) C (some 5) vb_X7_balesOf_0 0 L st H := Eq.trans rfl rfl
theorem xw_X7_balesOf_5 {E : xE} {res : xR} {N : Nat} {hd : List Nat} {C : xCT} {k : Nat} {L : List Int} {st : List pv} {H : PH} : xW E res N kd_X7_balesOf xm_X7_balesOf hd C (k + 1) 5 L st H = xB (fun t L st H => if t ∈ hd then xJ E res N kd_X7_balesOf t L st H else xW E res N kd_X7_balesOf xm_X7_balesOf hd C k t L st H) (REPR E res) C (some 58) vb_X7_balesOf_5 5 L st H := Eq.trans rfl rfl
theorem xw_X7_balesOf_58 {E : xE} {res : xR} {N : Nat} {hd : List Nat} {C : xCT} {k : Nat} {L : List Int} {st : List pv} {H : PH} : xW E res N kd_X7_balesOf xm_X7_balesOf hd C (k + 1) 58 L st H = xB (fun t L st H => if t ∈ hd then xJ E res N kd_X7_balesOf t L st H else xW E res N kd_X7_balesOf xm_X7_balesOf hd C k t L st H) (REPR E res) C (some 64) vb_X7_balesOf_58 58 L st H := Eq.trans rfl rfl
theorem xw_X7_balesOf_64 {E : xE} {res : xR} {N : Nat} {hd : List Nat} {C : xCT} {k : Nat} {L : List Int} {st : List pv} {H : PH} : xW E res N kd_X7_balesOf xm_X7_balesOf hd C (k + 1) 64 L st H = xB (fun t L st H => if t ∈ hd then xJ E res N kd_X7_balesOf t L st H else xW E res N kd_X7_balesOf xm_X7_balesOf hd C k t L st H) (REPR E res) C (none) vb_X7_balesOf_64 64 L st H := Eq.trans rfl rfl
def xm_X7_leastInAll : List xbT := [(0, vb_X7_leastInAll_0, some 11), (11, vb_X7_leastInAll_11, some 29), (29, vb_X7_leastInAll_29, some 31), (31, vb_X7_leastInAll_31, some 38), (38, vb_X7_leastInAll_38, some 40), (40, vb_X7_leastInAll_40, some 53), (53, vb_X7_leastInAll_53, some 75), (75, vb_X7_leastInAll_75, some 81), (81, vb_X7_leastInAll_81, none)]
theorem xc_X7_leastInAll : xOK kd_X7_leastInAll xm_X7_leastInAll := ⟨ve_X7_leastInAll_0, ve_X7_leastInAll_11, ve_X7_leastInAll_29, ve_X7_leastInAll_31, ve_X7_leastInAll_38, ve_X7_leastInAll_40, ve_X7_leastInAll_53, ve_X7_leastInAll_75, ve_X7_leastInAll_81, trivial⟩
theorem xa_X7_leastInAll : xm_X7_leastInAll.all (fun q => aOKb q.2.1 && !q.2.1.isEmpty) = true := by decide +kernel
theorem xw_X7_leastInAll_0 {E : xE} {res : xR} {N : Nat} {hd : List Nat} {C : xCT} {k : Nat} {L : List Int} {st : List pv} {H : PH} : xW E res N kd_X7_leastInAll xm_X7_leastInAll hd C (k + 1) 0 L st H = xB (fun t L st H => if t ∈ hd then xJ E res N kd_X7_leastInAll t L st H else xW E res N kd_X7_leastInAll xm_X7_leastInAll hd C k t L st H) (REPR E res) C (some 11) vb_X7_leastInAll_0 0 L st H := Eq.trans rfl rfl
theorem xw_X7_leastInAll_11 {E : xE} {res : xR} {N : Nat} {hd : List Nat} {C : xCT} {k : Nat} {L : List Int} {st : List pv} {H : PH} : xW E res N kd_X7_leastInAll xm_X7_leastInAll hd C (k + 1) 11 L st H = xB (fun t L st H => if t ∈ hd then xJ E res N kd_X7_leastInAll t L st H else xW E res N kd_X7_leastInAll xm_X7_leastInAll hd C k t L st H) (REPR E res) C (some 29) vb_X7_leastInAll_11 11 L st H := Eq.trans rfl rfl
theorem xw_X7_leastInAll_29 {E : xE} {res : xR} {N : Nat} {hd : List Nat} {C : xCT} {k : Nat} {L : List Int} {st : List pv} {H : PH} : xW E res N kd_X7_leastInAll xm_X7_leastInAll hd C (k + 1) 29 L st H = xB (fun t L st H => if t ∈ hd then xJ E res N kd_X7_leastInAll t L st H else xW E res N kd_X7_leastInAll xm_X7_leastInAll hd C k t L st H) (REPR E res) C (some 31) vb_X7_leastInAll_29 29 L st H := Eq.trans rfl rfl
theorem xw_X7_leastInAll_31 {E : xE} {res : xR} {N : Nat} {hd : List Nat} {C : xCT} {k : Nat} {L : List Int} {st : List pv} {H : PH} : xW E res N kd_X7_leastInAll xm_X7_leastInAll hd C (k + 1) 31 L st H = xB (fun t L st H => if t ∈ hd then xJ E res N kd_X7_leastInAll t L st H else xW E res N kd_X7_leastInAll xm_X7_leastInAll hd C k t L st H) (REPR E res) C (some 38) vb_X7_leastInAll_31 31 L st H := Eq.trans rfl rfl
theorem xw_X7_leastInAll_38 {E : xE} {res : xR} {N : Nat} {hd : List Nat} {C : xCT} {k : Nat} {L : List Int} {st : List pv} {H : PH} : xW E res N kd_X7_leastInAll xm_X7_leastInAll hd C (k + 1) 38 L st H = xB (fun t L st H => if t ∈ hd then xJ E res N kd_X7_leastInAll t L st H else xW E res N kd_X7_leastInAll xm_X7_leastInAll hd C k t L st H) (REPR E res) C (some 40) vb_X7_leastInAll_38 38 L st H := Eq.trans rfl rfl
theorem xw_X7_leastInAll_40 {E : xE} {res : xR} {N : Nat} {hd : List Nat} {C : xCT} {k : Nat} {L : List Int} {st : List pv} {H : PH} : xW E res N kd_X7_leastInAll xm_X7_leastInAll hd C (k + 1) 40 L st H = xB (fun t L st H => if t ∈ hd then xJ E res N kd_X7_leastInAll t L st H else xW E res N kd_X7_leastInAll xm_X7_leastInAll hd C k t L st H) (REPR E res) C (some 53) vb_X7_leastInAll_40 40 L st H := Eq.trans rfl rfl
theorem xw_X7_leastInAll_53 {E : xE} {res : xR} {N : Nat} {hd : List Nat} {C : xCT} {k : Nat} {L : List Int} {st : List pv} {H : PH} : xW E res N kd_X7_leastInAll xm_X7_leastInAll hd C (k + 1) 53 L st H = xB (fun t L st H => if t ∈ hd then xJ E res N kd_X7_leastInAll t L st H else xW E res N kd_X7_leastInAll xm_X7_leastInAll hd C k t L st H) (REPR E res) C (some 75) vb_X7_leastInAll_53 53 L st H := Eq.trans rfl rfl
theorem xw_X7_leastInAll_75 {E : xE} {res : xR} {N : Nat} {hd : List Nat} {C : xCT} {k : Nat} {L : List Int} {st : List pv} {H : PH} : xW E res N kd_X7_leastInAll xm_X7_leastInAll hd C (k + 1) 75 L st H = xB (fun t L st H => if t ∈ hd then xJ E res N kd_X7_leastInAll t L st H else xW E res N kd_X7_leastInAll xm_X7_leastInAll hd C k t L st H) (REPR E res) C (some 81) vb_X7_leastInAll_75 75 L st H := Eq.trans rfl rfl
theorem xw_X7_leastInAll_81 {E : xE} {res : xR} {N : Nat} {hd : List Nat} {C : xCT} {k : Nat} {L : List Int} {st : List pv} {H : PH} : xW E res N kd_X7_leastInAll xm_X7_leastInAll hd C (k + 1) 81 L st H = xB (fun t L st H => if t ∈ hd then xJ E res N kd_X7_leastInAll t L st H else xW E res N kd_X7_leastInAll xm_X7_leastInAll hd C k t L st H) (REPR E res) C (none) vb_X7_leastInAll_81 81 L st H := Eq.trans rfl rfl
def xm_X7_leastWith : List xbT := [(0, vb_X7_leastWith_0, some 17), (17, vb_X7_leastWith_17, some 56), (56, vb_X7_leastWith_56, some 62), (62, vb_X7_leastWith_62, none)]
theorem xc_X7_leastWith : xOK kd_X7_leastWith xm_X7_leastWith := ⟨ve_X7_leastWith_0, ve_X7_leastWith_17, ve_X7_leastWith_56, ve_X7_leastWith_62, trivial⟩
theorem xa_X7_leastWith : xm_X7_leastWith.all (fun q => aOKb q.2.1 && !q.2.1.isEmpty) = true := by decide +kernel
theorem xw_X7_leastWith_0 {E : xE} {res : xR} {N : Nat} {hd : List Nat} {C : xCT} {k : Nat} {L : List Int} {st : List pv} {H : PH} : xW E res N kd_X7_leastWith xm_X7_leastWith hd C (k + 1) 0 L st H = xB (fun t L st H => if t ∈ hd then xJ E res N kd_X7_leastWith t L st H else xW E res N kd_X7_leastWith xm_X7_leastWith hd C k t L st H) (REPR E res) C (some 17) vb_X7_leastWith_0 0 L st H := Eq.trans rfl rfl
theorem xw_X7_leastWith_17 {E : xE} {res : xR} {N : Nat} {hd : List Nat} {C : xCT} {k : Nat} {L : List Int} {st : List pv} {H : PH} : xW E res N kd_X7_leastWith xm_X7_leastWith hd C (k + 1) 17 L st H = xB (fun t L st H => if t ∈ hd then xJ E res N kd_X7_leastWith t L st H else xW E res N kd_X7_leastWith xm_X7_leastWith hd C k t L st H) (REPR E res) C (some 56) vb_X7_leastWith_17 17 L st H := Eq.trans rfl rfl
theorem xw_X7_leastWith_56 {E : xE} {res : xR} {N : Nat} {hd : List Nat} {C : xCT} {k : Nat} {L : List Int} {st : List pv} {H : PH} : xW E res N kd_X7_leastWith xm_X7_leastWith hd C (k + 1) 56 L st H = xB (fun t L st H => if t ∈ hd then xJ E res N kd_X7_leastWith t L st H else xW E res N kd_X7_leastWith xm_X7_leastWith hd C k t L st H) (REPR E res) C (some 62) vb_X7_leastWith_56 56 L st H := Eq.trans rfl rfl
theorem xw_X7_leastWith_62 {E : xE} {res : xR} {N : Nat} {hd : List Nat} {C : xCT} {k : Nat} {L : List Int} {st : List pv} {H : PH} : xW E res N kd_X7_leastWith xm_X7_leastWith hd C (k + 1) 62 L st H = xB (fun t L st H => if t ∈ hd then xJ E res N kd_X7_leastWith t L st H else xW E res N kd_X7_leastWith xm_X7_leastWith hd C k t L st H) (REPR E res) C (none) vb_X7_leastWith_62 62 L st H := Eq.trans rfl rfl
def xm_X7_billFor : List xbT := [(0, vb_X7_billFor_0, some 7), (7, vb_X7_billFor_7, some 36), (36, vb_X7_billFor_36, some 42), (42, vb_X7_billFor_42, none)]
theorem xc_X7_billFor : xOK kd_X7_billFor xm_X7_billFor := ⟨ve_X7_billFor_0, ve_X7_billFor_7, ve_X7_billFor_36, ve_X7_billFor_42, trivial⟩
theorem xa_X7_billFor : xm_X7_billFor.all (fun q => aOKb q.2.1 && !q.2.1.isEmpty) = true := by decide +kernel
theorem xw_X7_billFor_0 {E : xE} {res : xR} {N : Nat} {hd : List Nat} {C : xCT} {k : Nat} {L : List Int} {st : List pv} {H : PH} : xW E res N kd_X7_billFor xm_X7_billFor hd C (k + 1) 0 L st H = xB (fun t L st H => if t ∈ hd then xJ E res N kd_X7_billFor t L st H else xW E res N kd_X7_billFor xm_X7_billFor hd C k t L st H) (REPR E res) C (some 7) vb_X7_billFor_0 0 L st H := Eq.trans rfl rfl
theorem xw_X7_billFor_7 {E : xE} {res : xR} {N : Nat} {hd : List Nat} {C : xCT} {k : Nat} {L : List Int} {st : List pv} {H : PH} : xW E res N kd_X7_billFor xm_X7_billFor hd C (k + 1) 7 L st H = xB (fun t L st H => if t ∈ hd then xJ E res N kd_X7_billFor t L st H else xW E res N kd_X7_billFor xm_X7_billFor hd C k t L st H) (REPR E res) C (some 36) vb_X7_billFor_7 7 L st H := Eq.trans rfl rfl
theorem xw_X7_billFor_36 {E : xE} {res : xR} {N : Nat} {hd : List Nat} {C : xCT} {k : Nat} {L : List Int} {st : List pv} {H : PH} : xW E res N kd_X7_billFor xm_X7_billFor hd C (k + 1) 36 L st H = xB (fun t L st H => if t ∈ hd then xJ E res N kd_X7_billFor t L st H else xW E res N kd_X7_billFor xm_X7_billFor hd C k t L st H) (REPR E res) C (some 42) vb_X7_billFor_36 36 L st H := Eq.trans rfl rfl
theorem xw_X7_billFor_42 {E : xE} {res : xR} {N : Nat} {hd : List Nat} {C : xCT} {k : Nat} {L : List Int} {st : List pv} {H : PH} : xW E res N kd_X7_billFor xm_X7_billFor hd C (k + 1) 42 L st H = xB (fun t L st H => if t ∈ hd then xJ E res N kd_X7_billFor t L st H else xW E res N kd_X7_billFor xm_X7_billFor hd C k t L st H) (REPR E res) C (none) vb_X7_billFor_42 42 L st H := Eq.trans rfl rfl
def xm_X7_fixFirst : List xbT := [(0, vb_X7_fixFirst_0, some 2), (2, vb_X7_fixFirst_2, some 38), (38, vb_X7_fixFirst_38, some 44), (44, vb_X7_fixFirst_44, none)]
theorem xc_X7_fixFirst : xOK kd_X7_fixFirst xm_X7_fixFirst := ⟨ve_X7_fixFirst_0, ve_X7_fixFirst_2, ve_X7_fixFirst_38, ve_X7_fixFirst_44, trivial⟩
theorem xa_X7_fixFirst : xm_X7_fixFirst.all (fun q => aOKb q.2.1 && !q.2.1.isEmpty) = true := by decide +kernel
theorem xw_X7_fixFirst_0 {E : xE} {res : xR} {N : Nat} {hd : List Nat} {C : xCT} {k : Nat} {L : List Int} {st : List pv} {H : PH} : xW E res N kd_X7_fixFirst xm_X7_fixFirst hd C (k + 1) 0 L st H = xB (fun t L st H => if t ∈ hd then xJ E res N kd_X7_fixFirst t L st H else xW E res N kd_X7_fixFirst xm_X7_fixFirst hd C k t L st H) (REPR E res) C (some 2) vb_X7_fixFirst_0 0 L st H := Eq.trans rfl rfl
theorem xw_X7_fixFirst_2 {E : xE} {res : xR} {N : Nat} {hd : List Nat} {C : xCT} {k : Nat} {L : List Int} {st : List pv} {H : PH} : xW E res N kd_X7_fixFirst xm_X7_fixFirst hd C (k + 1) 2 L st H = xB (fun t L st H => if t ∈ hd then xJ E res N kd_X7_fixFirst t L st H else xW E res N kd_X7_fixFirst xm_X7_fixFirst hd C k t L st H) (REPR E res) C (some 38) vb_X7_fixFirst_2 2 L st H := Eq.trans rfl rfl
theorem xw_X7_fixFirst_38 {E : xE} {res : xR} {N : Nat} {hd : List Nat} {C : xCT} {k : Nat} {L : List Int} {st : List pv} {H : PH} : xW E res N kd_X7_fixFirst xm_X7_fixFirst hd C (k + 1) 38 L st H = xB (fun t L st H => if t ∈ hd then xJ E res N kd_X7_fixFirst t L st H else xW E res N kd_X7_fixFirst xm_X7_fixFirst hd C k t L st H) (REPR E res) C (some 44) vb_X7_fixFirst_38 38 L st H := Eq.trans rfl rfl
theorem xw_X7_fixFirst_44 {E : xE} {res : xR} {N : Nat} {hd : List Nat} {C : xCT} {k : Nat} {L : List Int} {st : List pv} {H : PH} : xW E res N kd_X7_fixFirst xm_X7_fixFirst hd C (k + 1) 44 L st H = xB (fun t L st H => if t ∈ hd then xJ E res N kd_X7_fixFirst t L st H else xW E res N kd_X7_fixFirst xm_X7_fixFirst hd C k t L st H) (REPR E res) C (none) vb_X7_fixFirst_44 44 L st H := Eq.trans rfl rfl
def xm_X7_allowOnly : List xbT := [(0, vb_X7_allowOnly_0, some 2), (2, vb_X7_allowOnly_2, some 33), (33, vb_X7_allowOnly_33, none)]
theorem xc_X7_allowOnly : xOK kd_X7_allowOnly xm_X7_allowOnly := ⟨ve_X7_allowOnly_0, ve_X7_allowOnly_2, ve_X7_allowOnly_33, trivial⟩
theorem xa_X7_allowOnly : xm_X7_allowOnly.all (fun q => aOKb q.2.1 && !q.2.1.isEmpty) = true := by decide +kernel
theorem xw_X7_allowOnly_0 {E : xE} {res : xR} {N : Nat} {hd : List Nat} {C : xCT} {k : Nat} {L : List Int} {st : List pv} {H : PH} : xW E res N kd_X7_allowOnly xm_X7_allowOnly hd C (k + 1) 0 L st H = xB (fun t L st H => if t ∈ hd then xJ E res N kd_X7_allowOnly t L st H else xW E res N kd_X7_allowOnly xm_X7_allowOnly hd C k t L st H) (REPR E res) C (some 2) vb_X7_allowOnly_0 0 L st H := Eq.trans rfl rfl
theorem xw_X7_allowOnly_2 {E : xE} {res : xR} {N : Nat} {hd : List Nat} {C : xCT} {k : Nat} {L : List Int} {st : List pv} {H : PH} : xW E res N kd_X7_allowOnly xm_X7_allowOnly hd C (k + 1) 2 L st H = xB (fun t L st H => if t ∈ hd then xJ E res N kd_X7_allowOnly t L st H else xW E res N kd_X7_allowOnly xm_X7_allowOnly hd C k t L st H) (REPR E res) C (some 33) vb_X7_allowOnly_2 2 L st H := Eq.trans rfl rfl
theorem xw_X7_allowOnly_33 {E : xE} {res : xR} {N : Nat} {hd : List Nat} {C : xCT} {k : Nat} {L : List Int} {st : List pv} {H : PH} : xW E res N kd_X7_allowOnly xm_X7_allowOnly hd C (k + 1) 33 L st H = xB (fun t L st H => if t ∈ hd then xJ E res N kd_X7_allowOnly t L st H else xW E res N kd_X7_allowOnly xm_X7_allowOnly hd C k t L st H) (REPR E res) C (none) vb_X7_allowOnly_33 33 L st H := Eq.trans rfl rfl
/-! ===== settled: what it leaves as it is ===== -/
theorem CQ_up {H H' : PH} {S : Int → Int → Int} {n c i v : Int} (hc : 451 ≤ c ∧ c ≤ 467) (h : CQ H H' S n) : CQ H (pup H' c i v) S n := by
  obtain ⟨r, m, f, t, e⟩ := h
  have ok := RC_sz r
  exact ⟨RC_fr r (CI_Z ok.1 r.1 (fun d hd => xp_ne (by omega))) (CPr_fr (xp_ne (by omega)) (xp_ne (by omega)) r.2.1) (GFL_up r.2.2.1 (by omega)), MCC_fr (fun d d0 d1 => xp_ne (by omega)) m, OF_trans f ⟨fun d hd => xp_ne (by omega), ⟨congrFun (xp_ne (by omega)) 10, xp_ne (by omega)⟩, xp_ne (by omega)⟩, by rw [xp_ne (by omega)]; exact t, by rw [xp_ne (by omega)]; exact e⟩
/-- lines that are doubtful lie in their row -/
def DLs (N : Int) (H : PH) : Prop := ∀ i, 0 ≤ i → i < H 451 3 → 0 ≤ H 452 i ∧ H 452 i < N
def SX (H H' : PH) (S : Int → Int → Int) (n : Int) : Prop := CQ H H' S n ∧ H' 451 3 = H 451 3 ∧ H' 452 = H 452
theorem SX_refl {H : PH} {S : Int → Int → Int} {n : Int} (r : RC H S n) (m : MCC (S 0) H) : SX H H S n := ⟨CQ_refl r m, rfl, rfl⟩
theorem SX_trans {H H1 H2 : PH} {S : Int → Int → Int} {n : Int} (a : SX H H1 S n) (b : SX H1 H2 S n) : SX H H2 S n := ⟨CQ_trans a.1 b.1, b.2.1.trans a.2.1, b.2.2.trans a.2.2⟩
theorem SX_up {H H' : PH} {S : Int → Int → Int} {n c i v : Int} (hc : 453 ≤ c ∧ c ≤ 467) (h : SX H H' S n) : SX H (pup H' c i v) S n := ⟨CQ_up (by omega) h.1, by rw [xp_ne (by omega)]; exact h.2.1, by rw [xp_ne (by omega)]; exact h.2.2⟩
theorem DLs_SX {N : Int} {H H' : PH} {S : Int → Int → Int} {n : Int} (h : SX H H' S n) (d : DLs N H) : DLs N H' := by
  unfold DLs at d ⊢
  rw [h.2.1, h.2.2]
  exact d
theorem gv454_all : ∀ l : Nat, l < 12 → zrt 454 l = some (455 + (l : Int)) := by decide +kernel
theorem gv454 {H : PH} {l : Int} (h0 : 0 ≤ l) (h1 : l < 12) : gv H 454 l = 455 + l := by
  obtain ⟨n, rfl⟩ := Int.eq_ofNat_of_zero_le h0
  unfold gv
  have e : zrt (454 : Int).toNat ((n : Int)).toNat = some (455 + (n : Int)) := by
    rw [Int.toNat_natCast]
    exact gv454_all n (by omega)
  rw [e]
set_option maxRecDepth 100000 in
theorem lp_isn (i b q : Int) (hq : 0 ≤ q) (H : PH) {E : xE} {res : xR} : ∀ (n : Nat) (k : Int), RUN E res n kd_X7_isNearest (zget kd_X7_isNearest 17) 17 [451, i, b, q, k] [] H → ∃ v, REPR E res (some (0, v)) H := by
  intro n
  induction n using Nat.strongRecOn with
  | _ n ih =>
    intro k hh
    have hh := xw_top (hd := [17]) 6 xD6_ok xc_X7_isNearest xa_X7_isNearest (t := 17) rfl hh
    simp (maxDischargeDepth := 12) -implicitDefEqProofs [vb_X7_isNearest_0, vb_X7_isNearest_17, vb_X7_isNearest_41, vb_X7_isNearest_47, xI_0, xI_1, xI_3, xI_4, xI_6, xI_7, xI_36, xI_46, xI_49, xI_51, xI_61, xI_62, xw_X7_isNearest_0, xw_X7_isNearest_17, xw_X7_isNearest_41, xw_X7_isNearest_47, zw_lit, xB_c, xB_s, xB_n, i1_c, j2_c, k1_c, jJ_e, xlg, xls, xla, xpd, ppush, zw_m1, zw_m2, zw_m3, gf_1_2, gf_7_0, gf_7_2, tg_1_2, tg_7_0, tg_7_2, gv_1_2, gv_451_0, gv_451_2, xD1, xD2, xD3, xD4, xD5, xD6, xb1_0, hq] at hh
    rcases hh with ⟨_, h⟩ | ⟨_, ⟨_, m, hm, h⟩ | ⟨_, h⟩⟩
    · exact ⟨_, h⟩
    · exact ih m hm _ h
    · exact ⟨_, h⟩
set_option maxRecDepth 100000 in
theorem sf_isNearest (i b : Int) (S : Int → Int → Int) (n : Int) (H : PH) (hR : RC H S n) (hM : MCC (S 0) H) (hD : DLs (S 0 2) H) (hi : 0 ≤ i ∧ i < H 451 3) : SPEC 64 [(2, 451), (0, i), (0, b)] H (fun r H' => (∃ v, r = some (0, v)) ∧ SX H H' S n) := by
  intro E n' res h
  obtain ⟨d0, d1⟩ := hD i hi.1 hi.2
  have h := call_runP 5 vm_X7_isNearest h
  have h := xw_top (hd := [17]) 6 xD6_ok xc_X7_isNearest xa_X7_isNearest (t := 0) rfl h
  simp (maxDischargeDepth := 12) -implicitDefEqProofs [vb_X7_isNearest_0, vb_X7_isNearest_17, vb_X7_isNearest_41, vb_X7_isNearest_47, xI_0, xI_1, xI_3, xI_4, xI_6, xI_7, xI_36, xI_46, xI_49, xI_51, xI_61, xI_62, xw_X7_isNearest_0, xw_X7_isNearest_17, xw_X7_isNearest_41, xw_X7_isNearest_47, zw_lit, xB_c, xB_s, xB_n, i1_c, j2_c, k1_c, jJ_e, xlg, xls, xla, xpd, ppush, zw_m1, zw_m2, zw_m3, gf_1_2, gf_7_0, gf_7_2, tg_1_2, tg_7_0, tg_7_2, gv_1_2, gv_451_0, gv_451_2, xD1, xD2, xD3, xD4, xD5, xD6, xb1_0] at h
  obtain ⟨r, H1, ⟨rfl, cq, g4, gg, gb, gc⟩, g⟩ := xc_use h (sp_c_gaps (H 452 i) S n H hR hM ⟨d0, d1⟩)
  simp (maxDischargeDepth := 12) -implicitDefEqProofs [vb_X7_isNearest_0, vb_X7_isNearest_17, vb_X7_isNearest_41, vb_X7_isNearest_47, xI_0, xI_1, xI_3, xI_4, xI_6, xI_7, xI_36, xI_46, xI_49, xI_51, xI_61, xI_62, xw_X7_isNearest_0, xw_X7_isNearest_17, xw_X7_isNearest_41, xw_X7_isNearest_47, zw_lit, xB_c, xB_s, xB_n, i1_c, j2_c, k1_c, jJ_e, xlg, xls, xla, xpd, ppush, zw_m1, zw_m2, zw_m3, gf_1_2, gf_7_0, gf_7_2, tg_1_2, tg_7_0, tg_7_2, gv_1_2, gv_451_0, gv_451_2, xD1, xD2, xD3, xD4, xD5, xD6, xb1_0] at g
  obtain ⟨m, hm, g⟩ := g
  obtain ⟨v, g⟩ := lp_isn i b _ (by omega) H1 m 0 g
  exact ⟨_, _, g, ⟨v, rfl⟩, cq, by rw [gc 451 (by decide) (by decide)], gc 452 (by decide) (by decide)⟩
set_option maxRecDepth 100000 in
theorem lp_bof (u d : Int) (H : PH) {E : xE} {res : xR} : ∀ (n : Nat) (v i x : Int), RUN E res n kd_X7_balesOf (zget kd_X7_balesOf 5) 5 [451, u, d, v, i, x] [] H → ∃ v, REPR E res (some (0, v)) H := by
  intro n
  induction n using Nat.strongRecOn with
  | _ n ih =>
    intro v i x h
    have h := xw_top (hd := [5]) 6 xD6_ok xc_X7_balesOf xa_X7_balesOf (t := 5) rfl h
    simp (maxDischargeDepth := 12) -implicitDefEqProofs [vb_X7_balesOf_0, vb_X7_balesOf_5, vb_X7_balesOf_58, vb_X7_balesOf_64, xI_0, xI_1, xI_3, xI_4, xI_6, xI_7, xI_14, xI_19, xI_23, xI_36, xI_44, xI_46, xI_49, xI_51, xI_53, xI_62, xw_X7_balesOf_0, xw_X7_balesOf_5, xw_X7_balesOf_58, xw_X7_balesOf_64, zw_lit, xB_c, xB_s, xB_n, i1_c, j2_c, k1_c, jJ_e, xlg, xls, xla, xpd, ppush, zw_m1, zw_m2, zw_m3, gf_1_3, gf_5_0, gf_5_2, gf_7_0, gf_7_2, gf_7_3, tg_1_3, tg_5_0, tg_5_2, tg_7_0, tg_7_2, tg_7_3, gv_1_3, gv_451_0, gv_451_2, gv_451_3, xD1, xD2, xD3, xD4, xD5, xD6, xb1_0] at h
    repeat' (first | (refine Or.elim h ?_ ?_ <;> clear h <;> intro h) | (refine And.elim ?_ h; clear h; intro _ h))
    all_goals first | exact ⟨_, h⟩ | (obtain ⟨m, hm, h⟩ := h; exact ih m hm _ _ _ h)
theorem sf_balesOf (u d : Int) (H : PH) : SPEC 66 [(2, 451), (0, u), (0, d)] H (fun r H' => (∃ v, r = some (0, v)) ∧ H' = H) := by
  intro E n res h
  have h := call_runP 6 vm_X7_balesOf h
  have h := xw_top (hd := [5]) 6 xD6_ok xc_X7_balesOf xa_X7_balesOf (t := 0) rfl h
  simp (maxDischargeDepth := 12) -implicitDefEqProofs [vb_X7_balesOf_0, vb_X7_balesOf_5, vb_X7_balesOf_58, vb_X7_balesOf_64, xI_0, xI_1, xI_3, xI_4, xI_6, xI_7, xI_14, xI_19, xI_23, xI_36, xI_44, xI_46, xI_49, xI_51, xI_53, xI_62, xw_X7_balesOf_0, xw_X7_balesOf_5, xw_X7_balesOf_58, xw_X7_balesOf_64, zw_lit, xB_c, xB_s, xB_n, i1_c, j2_c, k1_c, jJ_e, xlg, xls, xla, xpd, ppush, zw_m1, zw_m2, zw_m3, gf_1_3, gf_5_0, gf_5_2, gf_7_0, gf_7_2, gf_7_3, tg_1_3, tg_5_0, tg_5_2, tg_7_0, tg_7_2, tg_7_3, gv_1_3, gv_451_0, gv_451_2, gv_451_3, xD1, xD2, xD3, xD4, xD5, xD6, xb1_0] at h
  obtain ⟨m, hm, h⟩ := h
  obtain ⟨v, g⟩ := lp_bof u d H m 0 0 _ h
  exact ⟨_, _, g, ⟨v, rfl⟩, rfl⟩
set_option maxRecDepth 100000 in
theorem lp_wei (b c due : Int) (S : Int → Int → Int) (N : Int) (hb : 0 ≤ b ∧ b < 12) {E : xE} {res : xR} (H0 : PH) : ∀ (n : Nat) (u x y : Int) (H : PH), SX H0 H S N → RUN E res n kd_X7_weigh (zget kd_X7_weigh 18) 18 [451, b, c, due, u, x, y] [] H → ∃ H', SX H0 H' S N ∧ REPR E res none H' := by
  intro n
  induction n using Nat.strongRecOn with
  | _ n ih =>
    intro u x y H hS h
    have r := hS.1.1
    have ok := RC_sz r
    have g15 : ∀ X : PH, gv X 1 5 = X 1 5 := fun X => rfl
    have h := xw_top (hd := [18]) 6 xD6_ok xc_X7_weigh xa_X7_weigh (t := 18) rfl h
    simp (maxDischargeDepth := 12) -implicitDefEqProofs [vb_X7_weigh_0, vb_X7_weigh_18, vb_X7_weigh_113, vb_X7_weigh_119, xI_0, xI_1, xI_3, xI_4, xI_6, xI_7, xI_14, xI_15, xI_19, xI_22, xI_36, xI_44, xI_46, xI_49, xI_51, xI_52, xI_53, xI_61, xI_65, xI_66, xw_X7_weigh_0, xw_X7_weigh_18, xw_X7_weigh_113, xw_X7_weigh_119, zw_lit, xB_c, xB_s, xB_n, i1_c, j2_c, k1_c, jJ_e, xlg, xls, xla, xpd, ppush, zw_m1, zw_m2, zw_m3, gf_0_1, gf_1_1, gf_1_5, gf_7_0, gf_7_1, gf_7_3, gf_7_4, gf_7_5, gf_9_5, gf_9_6, tg_0_1, tg_1_1, tg_1_5, tg_7_0, tg_7_1, tg_7_3, tg_7_4, tg_7_5, tg_9_5, tg_9_6, gv_1_1, gv_1_5, gv_451_0, gv_451_1, gv_451_3, gv_451_4, gv_451_5, gv_215_5, gv_215_6, xD1, xD2, xD3, xD4, xD5, xD6, xb1_0] at h
    rcases h with ⟨_, h⟩ | ⟨_, ⟨_, m, hm, h⟩ | ⟨_, h⟩⟩
    · exact ⟨H, hS, h⟩
    · exact ih m hm _ _ _ H hS h
    · obtain ⟨r1, H1, ⟨⟨v1, rfl⟩, rfl⟩, g⟩ := xc_use h (sf_balesOf u 0 H)
      simp (maxDischargeDepth := 12) -implicitDefEqProofs [vb_X7_weigh_0, vb_X7_weigh_18, vb_X7_weigh_113, vb_X7_weigh_119, xI_0, xI_1, xI_3, xI_4, xI_6, xI_7, xI_14, xI_15, xI_19, xI_22, xI_36, xI_44, xI_46, xI_49, xI_51, xI_52, xI_53, xI_61, xI_65, xI_66, xw_X7_weigh_0, xw_X7_weigh_18, xw_X7_weigh_113, xw_X7_weigh_119, zw_lit, xB_c, xB_s, xB_n, i1_c, j2_c, k1_c, jJ_e, xlg, xls, xla, xpd, ppush, zw_m1, zw_m2, zw_m3, gf_0_1, gf_1_1, gf_1_5, gf_7_0, gf_7_1, gf_7_3, gf_7_4, gf_7_5, gf_9_5, gf_9_6, tg_0_1, tg_1_1, tg_1_5, tg_7_0, tg_7_1, tg_7_3, tg_7_4, tg_7_5, tg_9_5, tg_9_6, gv_1_1, gv_1_5, gv_451_0, gv_451_1, gv_451_3, gv_451_4, gv_451_5, gv_215_5, gv_215_6, xD1, xD2, xD3, xD4, xD5, xD6, xb1_0] at g
      obtain ⟨r1, H2, ⟨⟨v2, rfl⟩, rfl⟩, g2⟩ := xc_use g (sf_balesOf u 1 _)
      have g4 : gv H2 454 b = 455 + b := gv454 hb.1 hb.2
      simp (maxDischargeDepth := 12) -implicitDefEqProofs [vb_X7_weigh_0, vb_X7_weigh_18, vb_X7_weigh_113, vb_X7_weigh_119, xI_0, xI_1, xI_3, xI_4, xI_6, xI_7, xI_14, xI_15, xI_19, xI_22, xI_36, xI_44, xI_46, xI_49, xI_51, xI_52, xI_53, xI_61, xI_65, xI_66, xw_X7_weigh_0, xw_X7_weigh_18, xw_X7_weigh_113, xw_X7_weigh_119, zw_lit, xB_c, xB_s, xB_n, i1_c, j2_c, k1_c, jJ_e, xlg, xls, xla, xpd, ppush, zw_m1, zw_m2, zw_m3, gf_0_1, gf_1_1, gf_1_5, gf_7_0, gf_7_1, gf_7_3, gf_7_4, gf_7_5, gf_9_5, gf_9_6, tg_0_1, tg_1_1, tg_1_5, tg_7_0, tg_7_1, tg_7_3, tg_7_4, tg_7_5, tg_9_5, tg_9_6, gv_1_1, gv_1_5, gv_451_0, gv_451_1, gv_451_3, gv_451_4, gv_451_5, gv_215_5, gv_215_6, xD1, xD2, xD3, xD4, xD5, xD6, xb1_0, g4, g15] at g2
      obtain ⟨kw, vc, wf, _⟩ := agA_C ok.2.1 r.1.1 0 0 0
      obtain ⟨r1, H3, ⟨rfl, fr⟩, g3⟩ := xc_use g2 (sp_X4_agree (H2 1 5) _ _ _ H2 kw vc wf)
      have z := KWz kw
      have cq3 : CQ H0 H3 S N := CQ_trans hS.1 (CQ_AF r (AF_TF (TF_ag kw fr)) (CI_ag ok.1 kw r.1 fr) (MCC_fr (fun c c0 c1 => fr c (by omega)) hS.1.2.1))
      have sx3 : SX H0 H3 S N := ⟨cq3, by rw [fr 451 (by omega)]; exact hS.2.1, (fr 452 (by omega)).trans hS.2.2⟩
      obtain ⟨m, hm, g3⟩ := g3
      exact ih m hm _ _ _ _ (SX_up (by omega) sx3) g3
theorem sf_weigh (b : Int) (S : Int → Int → Int) (n : Int) (H : PH) (hR : RC H S n) (hM : MCC (S 0) H) (hb : 0 ≤ b ∧ b < S 0 0) : SPEC 65 [(2, 451), (0, b)] H (fun r H' => r = none ∧ SX H H' S n) := by
  intro E n' res h
  have ok := RC_sz hR
  have a0 := ok.1.1
  have g46 : gv H 46 b = 57 + 3 * b := gv46 hb.1 (by omega)
  have h := call_runP 7 vm_X7_weigh h
  have h := xw_top (hd := [18]) 6 xD6_ok xc_X7_weigh xa_X7_weigh (t := 0) rfl h
  simp (maxDischargeDepth := 12) -implicitDefEqProofs [vb_X7_weigh_0, vb_X7_weigh_18, vb_X7_weigh_113, vb_X7_weigh_119, xI_0, xI_1, xI_3, xI_4, xI_6, xI_7, xI_14, xI_15, xI_19, xI_22, xI_36, xI_44, xI_46, xI_49, xI_51, xI_52, xI_53, xI_61, xI_65, xI_66, xw_X7_weigh_0, xw_X7_weigh_18, xw_X7_weigh_113, xw_X7_weigh_119, zw_lit, xB_c, xB_s, xB_n, i1_c, j2_c, k1_c, jJ_e, xlg, xls, xla, xpd, ppush, zw_m1, zw_m2, zw_m3, gf_0_1, gf_1_1, gf_1_5, gf_7_0, gf_7_1, gf_7_3, gf_7_4, gf_7_5, gf_9_5, gf_9_6, tg_0_1, tg_1_1, tg_1_5, tg_7_0, tg_7_1, tg_7_3, tg_7_4, tg_7_5, tg_9_5, tg_9_6, gv_1_1, gv_1_5, gv_451_0, gv_451_1, gv_451_3, gv_451_4, gv_451_5, gv_215_5, gv_215_6, xD1, xD2, xD3, xD4, xD5, xD6, xb1_0, g46] at h
  obtain ⟨r, H1, ⟨rfl, rfl⟩, g⟩ := xc_use h (sp_X0_dueBales b (S 0) H ok.1 hR.1.1 hb)
  simp (maxDischargeDepth := 12) -implicitDefEqProofs [vb_X7_weigh_0, vb_X7_weigh_18, vb_X7_weigh_113, vb_X7_weigh_119, xI_0, xI_1, xI_3, xI_4, xI_6, xI_7, xI_14, xI_15, xI_19, xI_22, xI_36, xI_44, xI_46, xI_49, xI_51, xI_52, xI_53, xI_61, xI_65, xI_66, xw_X7_weigh_0, xw_X7_weigh_18, xw_X7_weigh_113, xw_X7_weigh_119, zw_lit, xB_c, xB_s, xB_n, i1_c, j2_c, k1_c, jJ_e, xlg, xls, xla, xpd, ppush, zw_m1, zw_m2, zw_m3, gf_0_1, gf_1_1, gf_1_5, gf_7_0, gf_7_1, gf_7_3, gf_7_4, gf_7_5, gf_9_5, gf_9_6, tg_0_1, tg_1_1, tg_1_5, tg_7_0, tg_7_1, tg_7_3, tg_7_4, tg_7_5, tg_9_5, tg_9_6, gv_1_1, gv_1_5, gv_451_0, gv_451_1, gv_451_3, gv_451_4, gv_451_5, gv_215_5, gv_215_6, xD1, xD2, xD3, xD4, xD5, xD6, xb1_0] at g
  obtain ⟨m, hm, g⟩ := g
  obtain ⟨H', k1, k2⟩ := lp_wei b _ _ S n ⟨hb.1, by omega⟩ _ m 0 _ _ _ (SX_refl hR hM) g
  exact ⟨_, H', k2, rfl, k1⟩
set_option maxRecDepth 100000 in
theorem lp_lwi (b u q : Int) (hb : 0 ≤ b ∧ b < 12) (H : PH) {E : xE} {res : xR} : ∀ (n : Nat) (v i : Int), RUN E res n kd_X7_leastWith (zget kd_X7_leastWith 17) 17 [451, b, u, v, q, i] [] H → ∃ v, REPR E res (some (0, v)) H := by
  intro n
  induction n using Nat.strongRecOn with
  | _ n ih =>
    intro v i h
    have g4 : gv H 454 b = 455 + b := gv454 hb.1 hb.2
    have i0 : 0 ≤ 455 + b := by omega
    have h := xw_top (hd := [17]) 6 xD6_ok xc_X7_leastWith xa_X7_leastWith (t := 17) rfl h
    simp (maxDischargeDepth := 12) -implicitDefEqProofs [vb_X7_leastWith_0, vb_X7_leastWith_17, vb_X7_leastWith_56, vb_X7_leastWith_62, xI_0, xI_1, xI_3, xI_6, xI_10, xI_14, xI_15, xI_19, xI_36, xI_39, xI_44, xI_49, xI_51, xI_53, xI_56, xI_62, xw_X7_leastWith_0, xw_X7_leastWith_17, xw_X7_leastWith_56, xw_X7_leastWith_62, zw_lit, xB_c, xB_s, xB_n, i1_c, j2_c, k1_c, jJ_e, xlg, xls, xla, xpd, ppush, zw_m1, zw_m2, zw_m3, gf_7_4, gf_7_5, gf_7_6, tg_7_4, tg_7_5, tg_7_6, gv_451_4, gv_451_5, gv_451_6, xD1, xD2, xD3, xD4, xD5, xD6, xb1_0, g4, i0] at h
    repeat' (first | (refine Or.elim h ?_ ?_ <;> clear h <;> intro h) | (refine And.elim ?_ h; clear h; intro _ h))
    all_goals first | exact ⟨_, h⟩ | (obtain ⟨m, hm, h⟩ := h; exact ih m hm _ _ h)
theorem sf_leastWith (b u : Int) (hb : 0 ≤ b ∧ b < 12) (H : PH) : SPEC 68 [(2, 451), (0, b), (0, u)] H (fun r H' => (∃ v, r = some (0, v)) ∧ H' = H) := by
  intro E n res h
  have h := call_runP 6 vm_X7_leastWith h
  have h := xw_top (hd := [17]) 6 xD6_ok xc_X7_leastWith xa_X7_leastWith (t := 0) rfl h
  simp (maxDischargeDepth := 12) -implicitDefEqProofs [vb_X7_leastWith_0, vb_X7_leastWith_17, vb_X7_leastWith_56, vb_X7_leastWith_62, xI_0, xI_1, xI_3, xI_6, xI_10, xI_14, xI_15, xI_19, xI_36, xI_39, xI_44, xI_49, xI_51, xI_53, xI_56, xI_62, xw_X7_leastWith_0, xw_X7_leastWith_17, xw_X7_leastWith_56, xw_X7_leastWith_62, zw_lit, xB_c, xB_s, xB_n, i1_c, j2_c, k1_c, jJ_e, xlg, xls, xla, xpd, ppush, zw_m1, zw_m2, zw_m3, gf_7_4, gf_7_5, gf_7_6, tg_7_4, tg_7_5, tg_7_6, gv_451_4, gv_451_5, gv_451_6, xD1, xD2, xD3, xD4, xD5, xD6, xb1_0] at h
  obtain ⟨m, hm, h⟩ := h
  obtain ⟨v, g⟩ := lp_lwi b u _ hb H m _ _ h
  exact ⟨_, _, g, ⟨v, rfl⟩, rfl⟩
set_option maxRecDepth 100000 in
theorem lp_lia53 (f b : Int) (S : Int → Int → Int) (N : Int) (hb : 0 ≤ b ∧ b < 12) {E : xE} {res : xR} (H0 : PH) : ∀ (n : Nat) (u : Int) (H : PH), SX H0 H S N → RUN E res n kd_X7_leastInAll (zget kd_X7_leastInAll 53) 53 [451, f, b, u] [] H → ∃ (H' : PH) (u' : Int), SX H0 H' S N ∧ xJ E res n kd_X7_leastInAll 75 [451, f, b, u'] [] H' := by
  intro n
  induction n using Nat.strongRecOn with
  | _ n ih =>
    intro u H hS h
    have h := xw_top (hd := [11, 40, 53, 75]) 11 xD6_ok xc_X7_leastInAll xa_X7_leastInAll (t := 53) rfl h
    simp (maxDischargeDepth := 12) -implicitDefEqProofs [vb_X7_leastInAll_0, vb_X7_leastInAll_11, vb_X7_leastInAll_29, vb_X7_leastInAll_31, vb_X7_leastInAll_38, vb_X7_leastInAll_40, vb_X7_leastInAll_53, vb_X7_leastInAll_75, vb_X7_leastInAll_81, xI_0, xI_1, xI_3, xI_6, xI_7, xI_10, xI_15, xI_22, xI_36, xI_38, xI_39, xI_46, xI_47, xI_49, xI_51, xI_52, xI_61, xI_62, xw_X7_leastInAll_0, xw_X7_leastInAll_11, xw_X7_leastInAll_29, xw_X7_leastInAll_31, xw_X7_leastInAll_38, xw_X7_leastInAll_40, xw_X7_leastInAll_53, xw_X7_leastInAll_75, xw_X7_leastInAll_81, zw_lit, xB_c, xB_s, xB_n, i1_c, j2_c, k1_c, jJ_e, xlg, xls, xla, xpd, ppush, zw_m1, zw_m2, zw_m3, gf_1_2, gf_7_0, gf_7_3, gf_7_6, tg_1_2, tg_7_0, tg_7_3, tg_7_6, gv_1_2, gv_451_0, gv_451_3, gv_451_6, xD1, xD2, xD3, xD4, xD5, xD6, xb1_0] at h
    rcases h with ⟨_, h⟩ | ⟨_, h⟩
    · exact ⟨H, u, hS, h⟩
    · obtain ⟨r, H1, ⟨⟨v, rfl⟩, rfl⟩, g⟩ := xc_use h (sf_leastWith b u hb H)
      simp (maxDischargeDepth := 12) -implicitDefEqProofs [vb_X7_leastInAll_0, vb_X7_leastInAll_11, vb_X7_leastInAll_29, vb_X7_leastInAll_31, vb_X7_leastInAll_38, vb_X7_leastInAll_40, vb_X7_leastInAll_53, vb_X7_leastInAll_75, vb_X7_leastInAll_81, xI_0, xI_1, xI_3, xI_6, xI_7, xI_10, xI_15, xI_22, xI_36, xI_38, xI_39, xI_46, xI_47, xI_49, xI_51, xI_52, xI_61, xI_62, xw_X7_leastInAll_0, xw_X7_leastInAll_11, xw_X7_leastInAll_29, xw_X7_leastInAll_31, xw_X7_leastInAll_38, xw_X7_leastInAll_40, xw_X7_leastInAll_53, xw_X7_leastInAll_75, xw_X7_leastInAll_81, zw_lit, xB_c, xB_s, xB_n, i1_c, j2_c, k1_c, jJ_e, xlg, xls, xla, xpd, ppush, zw_m1, zw_m2, zw_m3, gf_1_2, gf_7_0, gf_7_3, gf_7_6, tg_1_2, tg_7_0, tg_7_3, tg_7_6, gv_1_2, gv_451_0, gv_451_3, gv_451_6, xD1, xD2, xD3, xD4, xD5, xD6, xb1_0] at g
      obtain ⟨m, hm, g⟩ := g
      obtain ⟨H', u', k1, k2⟩ := ih m hm _ _ (SX_up (by omega) hS) g
      exact ⟨H', u', k1, xJ_up k2 (by omega)⟩
set_option maxRecDepth 100000 in
theorem lp_lia40 (f : Int) (S : Int → Int → Int) (N : Int) {E : xE} {res : xR} (H0 : PH) : ∀ (n : Nat) (b u : Int) (H : PH), 0 ≤ b → SX H0 H S N → RUN E res n kd_X7_leastInAll (zget kd_X7_leastInAll 40) 40 [451, f, b, u] [] H → ∃ H', SX H0 H' S N ∧ ∃ v, REPR E res (some (0, v)) H' := by
  intro n
  induction n using Nat.strongRecOn with
  | _ n ih =>
    intro b u H b0 hS h
    have ok := RC_sz hS.1.1
    have a0 := ok.1.1
    have e2 : H 1 2 = S 0 0 := hS.1.1.1.1.1.1.symm
    by_cases c : b < S 0 0
    · have c' : ¬ S 0 0 ≤ b := by omega
      have z1 : zw (b + 1) = b + 1 := zw_lit (by omega) (by omega)
      have h := xw_top (hd := [11, 40, 53, 75]) 11 xD6_ok xc_X7_leastInAll xa_X7_leastInAll (t := 40) rfl h
      simp (maxDischargeDepth := 12) -implicitDefEqProofs [vb_X7_leastInAll_0, vb_X7_leastInAll_11, vb_X7_leastInAll_29, vb_X7_leastInAll_31, vb_X7_leastInAll_38, vb_X7_leastInAll_40, vb_X7_leastInAll_53, vb_X7_leastInAll_75, vb_X7_leastInAll_81, xI_0, xI_1, xI_3, xI_6, xI_7, xI_10, xI_15, xI_22, xI_36, xI_38, xI_39, xI_46, xI_47, xI_49, xI_51, xI_52, xI_61, xI_62, xw_X7_leastInAll_0, xw_X7_leastInAll_11, xw_X7_leastInAll_29, xw_X7_leastInAll_31, xw_X7_leastInAll_38, xw_X7_leastInAll_40, xw_X7_leastInAll_53, xw_X7_leastInAll_75, xw_X7_leastInAll_81, zw_lit, xB_c, xB_s, xB_n, i1_c, j2_c, k1_c, jJ_e, xlg, xls, xla, xpd, ppush, zw_m1, zw_m2, zw_m3, gf_1_2, gf_7_0, gf_7_3, gf_7_6, tg_1_2, tg_7_0, tg_7_3, tg_7_6, gv_1_2, gv_451_0, gv_451_3, gv_451_6, xD1, xD2, xD3, xD4, xD5, xD6, xb1_0, e2, c, c'] at h
      obtain ⟨m, hm, h⟩ := h
      obtain ⟨H1, u1, k1, m2, hm2, k2⟩ := lp_lia53 f b S N ⟨b0, by omega⟩ H0 m _ H hS h
      have k2 := xw_top (hd := [11, 40, 53, 75]) 11 xD6_ok xc_X7_leastInAll xa_X7_leastInAll (t := 75) rfl k2
      simp (maxDischargeDepth := 12) -implicitDefEqProofs [vb_X7_leastInAll_0, vb_X7_leastInAll_11, vb_X7_leastInAll_29, vb_X7_leastInAll_31, vb_X7_leastInAll_38, vb_X7_leastInAll_40, vb_X7_leastInAll_53, vb_X7_leastInAll_75, vb_X7_leastInAll_81, xI_0, xI_1, xI_3, xI_6, xI_7, xI_10, xI_15, xI_22, xI_36, xI_38, xI_39, xI_46, xI_47, xI_49, xI_51, xI_52, xI_61, xI_62, xw_X7_leastInAll_0, xw_X7_leastInAll_11, xw_X7_leastInAll_29, xw_X7_leastInAll_31, xw_X7_leastInAll_38, xw_X7_leastInAll_40, xw_X7_leastInAll_53, xw_X7_leastInAll_75, xw_X7_leastInAll_81, zw_lit, xB_c, xB_s, xB_n, i1_c, j2_c, k1_c, jJ_e, xlg, xls, xla, xpd, ppush, zw_m1, zw_m2, zw_m3, gf_1_2, gf_7_0, gf_7_3, gf_7_6, tg_1_2, tg_7_0, tg_7_3, tg_7_6, gv_1_2, gv_451_0, gv_451_3, gv_451_6, xD1, xD2, xD3, xD4, xD5, xD6, xb1_0, z1] at k2
      obtain ⟨m3, hm3, k2⟩ := k2
      exact ih m3 (by omega) (b + 1) _ H1 (by omega) k1 k2
    · have c' : S 0 0 ≤ b := by omega
      have h := xw_top (hd := [11, 40, 53, 75]) 11 xD6_ok xc_X7_leastInAll xa_X7_leastInAll (t := 40) rfl h
      simp (maxDischargeDepth := 12) -implicitDefEqProofs [vb_X7_leastInAll_0, vb_X7_leastInAll_11, vb_X7_leastInAll_29, vb_X7_leastInAll_31, vb_X7_leastInAll_38, vb_X7_leastInAll_40, vb_X7_leastInAll_53, vb_X7_leastInAll_75, vb_X7_leastInAll_81, xI_0, xI_1, xI_3, xI_6, xI_7, xI_10, xI_15, xI_22, xI_36, xI_38, xI_39, xI_46, xI_47, xI_49, xI_51, xI_52, xI_61, xI_62, xw_X7_leastInAll_0, xw_X7_leastInAll_11, xw_X7_leastInAll_29, xw_X7_leastInAll_31, xw_X7_leastInAll_38, xw_X7_leastInAll_40, xw_X7_leastInAll_53, xw_X7_leastInAll_75, xw_X7_leastInAll_81, zw_lit, xB_c, xB_s, xB_n, i1_c, j2_c, k1_c, jJ_e, xlg, xls, xla, xpd, ppush, zw_m1, zw_m2, zw_m3, gf_1_2, gf_7_0, gf_7_3, gf_7_6, tg_1_2, tg_7_0, tg_7_3, tg_7_6, gv_1_2, gv_451_0, gv_451_3, gv_451_6, xD1, xD2, xD3, xD4, xD5, xD6, xb1_0, e2, c, c'] at h
      exact ⟨H, hS, _, h⟩
set_option maxRecDepth 100000 in
theorem lp_lia11 (f x : Int) (S : Int → Int → Int) (N : Int) {E : xE} {res : xR} (H0 : PH) : ∀ (n : Nat) (u : Int) (H : PH), SX H0 H S N → RUN E res n kd_X7_leastInAll (zget kd_X7_leastInAll 11) 11 [451, f, u, x] [] H → ∃ H', SX H0 H' S N ∧ ∃ v, REPR E res (some (0, v)) H' := by
  intro n
  induction n using Nat.strongRecOn with
  | _ n ih =>
    intro u H hS h
    have h := xw_top (hd := [11, 40, 53, 75]) 11 xD6_ok xc_X7_leastInAll xa_X7_leastInAll (t := 11) rfl h
    simp (maxDischargeDepth := 12) -implicitDefEqProofs [vb_X7_leastInAll_0, vb_X7_leastInAll_11, vb_X7_leastInAll_29, vb_X7_leastInAll_31, vb_X7_leastInAll_38, vb_X7_leastInAll_40, vb_X7_leastInAll_53, vb_X7_leastInAll_75, vb_X7_leastInAll_81, xI_0, xI_1, xI_3, xI_6, xI_7, xI_10, xI_15, xI_22, xI_36, xI_38, xI_39, xI_46, xI_47, xI_49, xI_51, xI_52, xI_61, xI_62, xw_X7_leastInAll_0, xw_X7_leastInAll_11, xw_X7_leastInAll_29, xw_X7_leastInAll_31, xw_X7_leastInAll_38, xw_X7_leastInAll_40, xw_X7_leastInAll_53, xw_X7_leastInAll_75, xw_X7_leastInAll_81, zw_lit, xB_c, xB_s, xB_n, i1_c, j2_c, k1_c, jJ_e, xlg, xls, xla, xpd, ppush, zw_m1, zw_m2, zw_m3, gf_1_2, gf_7_0, gf_7_3, gf_7_6, tg_1_2, tg_7_0, tg_7_3, tg_7_6, gv_1_2, gv_451_0, gv_451_3, gv_451_6, xD1, xD2, xD3, xD4, xD5, xD6, xb1_0] at h
    repeat' (first | (refine Or.elim h ?_ ?_ <;> clear h <;> intro h) | (refine And.elim ?_ h; clear h; intro _ h))
    · obtain ⟨m, hm, h⟩ := h
      exact lp_lia40 f S N H0 m 0 _ H (by omega) hS h
    all_goals (obtain ⟨m, hm, h⟩ := h; exact ih m hm _ _ (SX_up (by omega) hS) h)
theorem sf_leastInAll (S : Int → Int → Int) (n : Int) (H : PH) (hR : RC H S n) (hM : MCC (S 0) H) : SPEC 67 [(2, 451)] H (fun r H' => (∃ v, r = some (0, v)) ∧ SX H H' S n) := by
  intro E n' res h
  have h := call_runP 4 vm_X7_leastInAll h
  have h := xw_top (hd := [11, 40, 53, 75]) 11 xD6_ok xc_X7_leastInAll xa_X7_leastInAll (t := 0) rfl h
  simp (maxDischargeDepth := 12) -implicitDefEqProofs [vb_X7_leastInAll_0, vb_X7_leastInAll_11, vb_X7_leastInAll_29, vb_X7_leastInAll_31, vb_X7_leastInAll_38, vb_X7_leastInAll_40, vb_X7_leastInAll_53, vb_X7_leastInAll_75, vb_X7_leastInAll_81, xI_0, xI_1, xI_3, xI_6, xI_7, xI_10, xI_15, xI_22, xI_36, xI_38, xI_39, xI_46, xI_47, xI_49, xI_51, xI_52, xI_61, xI_62, xw_X7_leastInAll_0, xw_X7_leastInAll_11, xw_X7_leastInAll_29, xw_X7_leastInAll_31, xw_X7_leastInAll_38, xw_X7_leastInAll_40, xw_X7_leastInAll_53, xw_X7_leastInAll_75, xw_X7_leastInAll_81, zw_lit, xB_c, xB_s, xB_n, i1_c, j2_c, k1_c, jJ_e, xlg, xls, xla, xpd, ppush, zw_m1, zw_m2, zw_m3, gf_1_2, gf_7_0, gf_7_3, gf_7_6, tg_1_2, tg_7_0, tg_7_3, tg_7_6, gv_1_2, gv_451_0, gv_451_3, gv_451_6, xD1, xD2, xD3, xD4, xD5, xD6, xb1_0] at h
  obtain ⟨m, hm, h⟩ := h
  obtain ⟨H', k1, v, k2⟩ := lp_lia11 _ _ S n _ m _ _ (SX_refl hR hM) h
  exact ⟨_, H', k2, ⟨v, rfl⟩, k1⟩
set_option maxRecDepth 100000 in
theorem lp_alo (i b : Int) (S : Int → Int → Int) (N : Int) {E : xE} {res : xR} (H0 : PH) : ∀ (n : Nat) (u : Int) (H : PH), SX H0 H S N → RUN E res n kd_X7_allowOnly (zget kd_X7_allowOnly 2) 2 [451, i, b, u] [] H → ∃ H', SX H0 H' S N ∧ REPR E res none H' := by
  intro n
  induction n using Nat.strongRecOn with
  | _ n ih =>
    intro u H hS h
    have h := xw_top (hd := [2]) 5 xD6_ok xc_X7_allowOnly xa_X7_allowOnly (t := 2) rfl h
    simp (maxDischargeDepth := 12) -implicitDefEqProofs [vb_X7_allowOnly_0, vb_X7_allowOnly_2, vb_X7_allowOnly_33, xI_0, xI_1, xI_3, xI_6, xI_7, xI_19, xI_20, xI_21, xI_22, xI_34, xI_36, xI_46, xI_49, xI_51, xI_52, xI_65, xw_X7_allowOnly_0, xw_X7_allowOnly_2, xw_X7_allowOnly_33, zw_lit, xB_c, xB_s, xB_n, i1_c, j2_c, k1_c, jJ_e, xlg, xls, xla, xpd, ppush, zw_m1, zw_m2, zw_m3, gf_1_2, gf_7_0, gf_7_4, tg_1_2, tg_7_0, tg_7_4, gv_1_2, gv_451_0, gv_451_4, xD1, xD2, xD3, xD4, xD5, xD6, xb1_0] at h
    rcases h with ⟨_, h⟩ | ⟨_, m, hm, h⟩
    · exact ⟨_, SX_up (by omega) hS, h⟩
    · exact ih m hm _ _ (SX_up (by omega) hS) h
theorem sf_allowOnly (i b : Int) (S : Int → Int → Int) (n : Int) (H : PH) (hR : RC H S n) (hM : MCC (S 0) H) : SPEC 71 [(2, 451), (0, i), (0, b)] H (fun r H' => r = none ∧ SX H H' S n) := by
  intro E n' res h
  have h := call_runP 4 vm_X7_allowOnly h
  have h := xw_top (hd := [2]) 5 xD6_ok xc_X7_allowOnly xa_X7_allowOnly (t := 0) rfl h
  simp (maxDischargeDepth := 12) -implicitDefEqProofs [vb_X7_allowOnly_0, vb_X7_allowOnly_2, vb_X7_allowOnly_33, xI_0, xI_1, xI_3, xI_6, xI_7, xI_19, xI_20, xI_21, xI_22, xI_34, xI_36, xI_46, xI_49, xI_51, xI_52, xI_65, xw_X7_allowOnly_0, xw_X7_allowOnly_2, xw_X7_allowOnly_33, zw_lit, xB_c, xB_s, xB_n, i1_c, j2_c, k1_c, jJ_e, xlg, xls, xla, xpd, ppush, zw_m1, zw_m2, zw_m3, gf_1_2, gf_7_0, gf_7_4, tg_1_2, tg_7_0, tg_7_4, gv_1_2, gv_451_0, gv_451_4, xD1, xD2, xD3, xD4, xD5, xD6, xb1_0] at h
  obtain ⟨m, hm, h⟩ := h
  obtain ⟨H', k1, k2⟩ := lp_alo i b S n _ m _ _ (SX_refl hR hM) h
  exact ⟨_, H', k2, rfl, k1⟩
set_option maxRecDepth 100000 in
theorem lp_fix (i l : Int) (S : Int → Int → Int) (N : Int) {E : xE} {res : xR} (H0 : PH) (hD : DLs (S 0 2) H0) (hi : 0 ≤ i ∧ i < H0 451 3) : ∀ (n : Nat) (b : Int) (H : PH), SX H0 H S N → RUN E res n kd_X7_fixFirst (zget kd_X7_fixFirst 2) 2 [451, i, l, b] [] H → ∃ H', SX H0 H' S N ∧ ∃ v, REPR E res (some (0, v)) H' := by
  intro n
  induction n using Nat.strongRecOn with
  | _ n ih =>
    intro b H hS h
    have h := xw_top (hd := [2]) 6 xD6_ok xc_X7_fixFirst xa_X7_fixFirst (t := 2) rfl h
    simp (maxDischargeDepth := 12) -implicitDefEqProofs [vb_X7_fixFirst_0, vb_X7_fixFirst_2, vb_X7_fixFirst_38, vb_X7_fixFirst_44, xI_0, xI_1, xI_3, xI_6, xI_7, xI_36, xI_37, xI_44, xI_46, xI_49, xI_61, xI_62, xw_X7_fixFirst_0, xw_X7_fixFirst_2, xw_X7_fixFirst_38, xw_X7_fixFirst_44, zw_lit, xB_c, xB_s, xB_n, i1_c, j2_c, k1_c, jJ_e, xlg, xls, xla, xpd, ppush, zw_m1, zw_m2, zw_m3, gf_1_2, gf_7_0, tg_1_2, tg_7_0, gv_1_2, gv_451_0, xD1, xD2, xD3, xD4, xD5, xD6, xb1_0] at h
    rcases h with ⟨_, h⟩ | ⟨_, h⟩
    · exact ⟨H, hS, _, h⟩
    · obtain ⟨r, H1, ⟨⟨v, rfl⟩, s1⟩, g⟩ := xc_use h (sf_isNearest i b S N H hS.1.1 hS.1.2.1 (DLs_SX hS hD) (by rw [hS.2.1]; exact hi))
      have t1 := SX_trans hS s1
      simp (maxDischargeDepth := 12) -implicitDefEqProofs [vb_X7_fixFirst_0, vb_X7_fixFirst_2, vb_X7_fixFirst_38, vb_X7_fixFirst_44, xI_0, xI_1, xI_3, xI_6, xI_7, xI_36, xI_37, xI_44, xI_46, xI_49, xI_61, xI_62, xw_X7_fixFirst_0, xw_X7_fixFirst_2, xw_X7_fixFirst_38, xw_X7_fixFirst_44, zw_lit, xB_c, xB_s, xB_n, i1_c, j2_c, k1_c, jJ_e, xlg, xls, xla, xpd, ppush, zw_m1, zw_m2, zw_m3, gf_1_2, gf_7_0, tg_1_2, tg_7_0, gv_1_2, gv_451_0, xD1, xD2, xD3, xD4, xD5, xD6, xb1_0] at g
      rcases g with ⟨_, m, hm, g⟩ | ⟨_, g⟩
      · exact ih m hm _ H1 t1 g
      · obtain ⟨r, H2, ⟨rfl, s2⟩, g⟩ := xc_use g (sf_allowOnly i b S N H1 t1.1.1 t1.1.2.1)
        have t2 := SX_trans t1 s2
        simp (maxDischargeDepth := 12) -implicitDefEqProofs [vb_X7_fixFirst_0, vb_X7_fixFirst_2, vb_X7_fixFirst_38, vb_X7_fixFirst_44, xI_0, xI_1, xI_3, xI_6, xI_7, xI_36, xI_37, xI_44, xI_46, xI_49, xI_61, xI_62, xw_X7_fixFirst_0, xw_X7_fixFirst_2, xw_X7_fixFirst_38, xw_X7_fixFirst_44, zw_lit, xB_c, xB_s, xB_n, i1_c, j2_c, k1_c, jJ_e, xlg, xls, xla, xpd, ppush, zw_m1, zw_m2, zw_m3, gf_1_2, gf_7_0, tg_1_2, tg_7_0, gv_1_2, gv_451_0, xD1, xD2, xD3, xD4, xD5, xD6, xb1_0] at g
        obtain ⟨r, H3, ⟨⟨v3, rfl⟩, s3⟩, g⟩ := xc_use g (sf_leastInAll S N H2 t2.1.1 t2.1.2.1)
        have t3 := SX_trans t2 s3
        simp (maxDischargeDepth := 12) -implicitDefEqProofs [vb_X7_fixFirst_0, vb_X7_fixFirst_2, vb_X7_fixFirst_38, vb_X7_fixFirst_44, xI_0, xI_1, xI_3, xI_6, xI_7, xI_36, xI_37, xI_44, xI_46, xI_49, xI_61, xI_62, xw_X7_fixFirst_0, xw_X7_fixFirst_2, xw_X7_fixFirst_38, xw_X7_fixFirst_44, zw_lit, xB_c, xB_s, xB_n, i1_c, j2_c, k1_c, jJ_e, xlg, xls, xla, xpd, ppush, zw_m1, zw_m2, zw_m3, gf_1_2, gf_7_0, tg_1_2, tg_7_0, gv_1_2, gv_451_0, xD1, xD2, xD3, xD4, xD5, xD6, xb1_0] at g
        rcases g with ⟨_, m, hm, g⟩ | ⟨_, g⟩
        · exact ih m hm _ H3 t3 g
        · exact ⟨H3, t3, _, g⟩
theorem sf_fixFirst (i l : Int) (S : Int → Int → Int) (n : Int) (H : PH) (hR : RC H S n) (hM : MCC (S 0) H) (hD : DLs (S 0 2) H) (hi : 0 ≤ i ∧ i < H 451 3) : SPEC 70 [(2, 451), (0, i), (0, l)] H (fun r H' => (∃ v, r = some (0, v)) ∧ SX H H' S n) := by
  intro E n' res h
  have h := call_runP 4 vm_X7_fixFirst h
  have h := xw_top (hd := [2]) 6 xD6_ok xc_X7_fixFirst xa_X7_fixFirst (t := 0) rfl h
  simp (maxDischargeDepth := 12) -implicitDefEqProofs [vb_X7_fixFirst_0, vb_X7_fixFirst_2, vb_X7_fixFirst_38, vb_X7_fixFirst_44, xI_0, xI_1, xI_3, xI_6, xI_7, xI_36, xI_37, xI_44, xI_46, xI_49, xI_61, xI_62, xw_X7_fixFirst_0, xw_X7_fixFirst_2, xw_X7_fixFirst_38, xw_X7_fixFirst_44, zw_lit, xB_c, xB_s, xB_n, i1_c, j2_c, k1_c, jJ_e, xlg, xls, xla, xpd, ppush, zw_m1, zw_m2, zw_m3, gf_1_2, gf_7_0, tg_1_2, tg_7_0, gv_1_2, gv_451_0, xD1, xD2, xD3, xD4, xD5, xD6, xb1_0] at h
  obtain ⟨m, hm, h⟩ := h
  obtain ⟨H', k1, v, k2⟩ := lp_fix i l S n _ hD hi m _ _ (SX_refl hR hM) h
  exact ⟨_, H', k2, ⟨v, rfl⟩, k1⟩
set_option maxRecDepth 100000 in
theorem lp_bfo (k l : Int) (S : Int → Int → Int) (N : Int) {E : xE} {res : xR} (H0 : PH) (hD : DLs (S 0 2) H0) (h5 : H0 451 3 ≤ 5) : ∀ (n : Nat) (i x : Int) (H : PH), 0 ≤ i → SX H0 H S N → RUN E res n kd_X7_billFor (zget kd_X7_billFor 7) 7 [451, k, l, i, x] [] H → ∃ H', SX H0 H' S N ∧ ∃ v, REPR E res (some (0, v)) H' := by
  intro n
  induction n using Nat.strongRecOn with
  | _ n ih =>
    intro i x H i0 hS h
    have e3 := hS.2.1
    by_cases c : i < H0 451 3
    · have c' : ¬ H0 451 3 ≤ i := by omega
      have z1 : zw (i + 1) = i + 1 := zw_lit (by omega) (by omega)
      have h := xw_top (hd := [7]) 6 xD6_ok xc_X7_billFor xa_X7_billFor (t := 7) rfl h
      simp (maxDischargeDepth := 12) -implicitDefEqProofs [vb_X7_billFor_0, vb_X7_billFor_7, vb_X7_billFor_36, vb_X7_billFor_42, xI_0, xI_1, xI_3, xI_6, xI_7, xI_36, xI_44, xI_46, xI_49, xI_51, xI_61, xI_62, xw_X7_billFor_0, xw_X7_billFor_7, xw_X7_billFor_36, xw_X7_billFor_42, zw_lit, xB_c, xB_s, xB_n, i1_c, j2_c, k1_c, jJ_e, xlg, xls, xla, xpd, ppush, zw_m1, zw_m2, zw_m3, gf_7_2, gf_7_3, tg_7_2, tg_7_3, gv_451_2, gv_451_3, xD1, xD2, xD3, xD4, xD5, xD6, xb1_0, e3, c, c'] at h
      obtain ⟨r, H1, ⟨⟨v, rfl⟩, s1⟩, g⟩ := xc_use h (sf_fixFirst i l S N H hS.1.1 hS.1.2.1 (DLs_SX hS hD) (by rw [hS.2.1]; exact ⟨i0, c⟩))
      have t1 := SX_trans hS s1
      simp (maxDischargeDepth := 12) -implicitDefEqProofs [vb_X7_billFor_0, vb_X7_billFor_7, vb_X7_billFor_36, vb_X7_billFor_42, xI_0, xI_1, xI_3, xI_6, xI_7, xI_36, xI_44, xI_46, xI_49, xI_51, xI_61, xI_62, xw_X7_billFor_0, xw_X7_billFor_7, xw_X7_billFor_36, xw_X7_billFor_42, zw_lit, xB_c, xB_s, xB_n, i1_c, j2_c, k1_c, jJ_e, xlg, xls, xla, xpd, ppush, zw_m1, zw_m2, zw_m3, gf_7_2, gf_7_3, tg_7_2, tg_7_3, gv_451_2, gv_451_3, xD1, xD2, xD3, xD4, xD5, xD6, xb1_0, z1] at g
      rcases g with ⟨_, m, hm, g⟩ | ⟨_, g⟩
      · exact ih m hm _ _ H1 (by omega) t1 g
      · exact ⟨H1, t1, _, g⟩
    · have c' : H0 451 3 ≤ i := by omega
      have h := xw_top (hd := [7]) 6 xD6_ok xc_X7_billFor xa_X7_billFor (t := 7) rfl h
      simp (maxDischargeDepth := 12) -implicitDefEqProofs [vb_X7_billFor_0, vb_X7_billFor_7, vb_X7_billFor_36, vb_X7_billFor_42, xI_0, xI_1, xI_3, xI_6, xI_7, xI_36, xI_44, xI_46, xI_49, xI_51, xI_61, xI_62, xw_X7_billFor_0, xw_X7_billFor_7, xw_X7_billFor_36, xw_X7_billFor_42, zw_lit, xB_c, xB_s, xB_n, i1_c, j2_c, k1_c, jJ_e, xlg, xls, xla, xpd, ppush, zw_m1, zw_m2, zw_m3, gf_7_2, gf_7_3, tg_7_2, tg_7_3, gv_451_2, gv_451_3, xD1, xD2, xD3, xD4, xD5, xD6, xb1_0, e3, c, c'] at h
      exact ⟨H, hS, _, h⟩
theorem sf_billFor (k : Int) (S : Int → Int → Int) (n : Int) (H : PH) (hR : RC H S n) (hM : MCC (S 0) H) (hD : DLs (S 0 2) H) (h5 : H 451 3 ≤ 5) : SPEC 69 [(2, 451), (0, k)] H (fun r H' => (∃ v, r = some (0, v)) ∧ SX H H' S n) := by
  intro E n' res h
  have h := call_runP 5 vm_X7_billFor h
  have h := xw_top (hd := [7]) 6 xD6_ok xc_X7_billFor xa_X7_billFor (t := 0) rfl h
  simp (maxDischargeDepth := 12) -implicitDefEqProofs [vb_X7_billFor_0, vb_X7_billFor_7, vb_X7_billFor_36, vb_X7_billFor_42, xI_0, xI_1, xI_3, xI_6, xI_7, xI_36, xI_44, xI_46, xI_49, xI_51, xI_61, xI_62, xw_X7_billFor_0, xw_X7_billFor_7, xw_X7_billFor_36, xw_X7_billFor_42, zw_lit, xB_c, xB_s, xB_n, i1_c, j2_c, k1_c, jJ_e, xlg, xls, xla, xpd, ppush, zw_m1, zw_m2, zw_m3, gf_7_2, gf_7_3, tg_7_2, tg_7_3, gv_451_2, gv_451_3, xD1, xD2, xD3, xD4, xD5, xD6, xb1_0] at h
  obtain ⟨r, H1, ⟨⟨v, rfl⟩, s1⟩, g⟩ := xc_use h (sf_leastInAll S n H hR hM)
  simp (maxDischargeDepth := 12) -implicitDefEqProofs [vb_X7_billFor_0, vb_X7_billFor_7, vb_X7_billFor_36, vb_X7_billFor_42, xI_0, xI_1, xI_3, xI_6, xI_7, xI_36, xI_44, xI_46, xI_49, xI_51, xI_61, xI_62, xw_X7_billFor_0, xw_X7_billFor_7, xw_X7_billFor_36, xw_X7_billFor_42, zw_lit, xB_c, xB_s, xB_n, i1_c, j2_c, k1_c, jJ_e, xlg, xls, xla, xpd, ppush, zw_m1, zw_m2, zw_m3, gf_7_2, gf_7_3, tg_7_2, tg_7_3, gv_451_2, gv_451_3, xD1, xD2, xD3, xD4, xD5, xD6, xb1_0] at g
  obtain ⟨m, hm, g⟩ := g
  obtain ⟨H', k1, v, k2⟩ := lp_bfo k _ S n H1 (DLs_SX s1 hD) (by rw [s1.2.1]; exact h5) m 0 _ H1 (by omega) ⟨CQ_refl s1.1.1 s1.1.2.1, rfl, rfl⟩ g
  exact ⟨_, H', k2, ⟨v, rfl⟩, SX_trans s1 k1⟩
set_option maxRecDepth 100000 in
theorem lp_ga28 (x y : Int) (S : Int → Int → Int) (N : Int) {E : xE} {res : xR} (H0 : PH) : ∀ (n : Nat) (k : Int) (H : PH), 0 ≤ k → CQ H0 H S N → (0 ≤ H 451 3 ∧ H 451 3 ≤ 5) → DLs (S 0 2) H → RUN E res n kd_X7_gather (zget kd_X7_gather 28) 28 [451, x, k, y] [] H → ∃ (H' : PH) (k' : Int), CQ H0 H' S N ∧ (0 ≤ H' 451 3 ∧ H' 451 3 ≤ 5) ∧ DLs (S 0 2) H' ∧ xJ E res n kd_X7_gather 87 [451, x, k', y] [] H' := by
  intro n
  induction n using Nat.strongRecOn with
  | _ n ih =>
    intro k H k0 hC h5 hD h
    have ok := RC_sz hC.1
    have a2 := ok.1.2.2.1
    have e4 : H 1 4 = S 0 2 := hC.1.1.1.1.2.2.1.symm
    by_cases c : k < S 0 2
    · have c' : ¬ S 0 2 ≤ k := by omega
      have z1 : zw (k + 1) = k + 1 := zw_lit (by omega) (by omega)
      by_cases q : H 216 k = -2
      · by_cases q5 : H 451 3 < 5
        · have q6 : ¬ 5 ≤ H 451 3 := by omega
          have zc : zw (H 451 3 + 1) = H 451 3 + 1 := zw_lit (by omega) (by omega)
          have h := xw_top (hd := [28, 87, 89, 109]) 13 xD6_ok xc_X7_gather xa_X7_gather (t := 28) rfl h
          simp (maxDischargeDepth := 12) -implicitDefEqProofs [vb_X7_gather_0, vb_X7_gather_21, vb_X7_gather_28, vb_X7_gather_81, vb_X7_gather_87, vb_X7_gather_89, vb_X7_gather_109, vb_X7_gather_139, vb_X7_gather_140, vb_X7_gather_148, vb_X7_gather_159, xI_0, xI_1, xI_3, xI_6, xI_7, xI_8, xI_14, xI_20, xI_22, xI_33, xI_34, xI_36, xI_37, xI_38, xI_44, xI_46, xI_49, xI_50, xI_51, xI_52, xI_60, xI_61, xI_62, xw_X7_gather_0, xw_X7_gather_21, xw_X7_gather_28, xw_X7_gather_81, xw_X7_gather_87, xw_X7_gather_89, xw_X7_gather_109, xw_X7_gather_139, xw_X7_gather_140, xw_X7_gather_148, xw_X7_gather_159, zw_lit, xB_c, xB_s, xB_n, i1_c, j2_c, k1_c, jJ_e, xlg, xls, xla, xpd, ppush, zw_m1, zw_m2, zw_m3, gf_1_2, gf_1_4, gf_7_0, gf_7_1, gf_7_2, gf_7_3, gf_7_4, gf_9_2, pf_7_3, tg_1_2, tg_1_4, tg_7_0, tg_7_1, tg_7_2, tg_7_3, tg_7_4, tg_9_2, gv_1_2, gv_1_4, gv_451_0, gv_451_1, gv_451_2, gv_451_3, gv_451_4, gv_215_2, xD1, xD2, xD3, xD4, xD5, xD6, xb1_0, e4, c, c', q, q5, q6, z1, zc, xp_ne] at h
          obtain ⟨m, hm, h⟩ := h
          obtain ⟨H', k', k1, k2, k3, k4⟩ := ih m hm (k + 1) _ (by omega) (CQ_up (by decide) (CQ_up (by decide) hC)) (by rw [xp_at, if_pos rfl]; omega) (fun i i0 i1 => by
            rw [xp_at, if_pos rfl] at i1
            rw [xp_ne (by decide), xp_at]
            by_cases e : i = H 451 3
            · rw [if_pos e]
              exact ⟨k0, c⟩
            · rw [if_neg e]
              exact hD i i0 (by omega)) h
          exact ⟨H', k', k1, k2, k3, xJ_up k4 (by omega)⟩
        · have q6 : 5 ≤ H 451 3 := by omega
          have h := xw_top (hd := [28, 87, 89, 109]) 13 xD6_ok xc_X7_gather xa_X7_gather (t := 28) rfl h
          simp (maxDischargeDepth := 12) -implicitDefEqProofs [vb_X7_gather_0, vb_X7_gather_21, vb_X7_gather_28, vb_X7_gather_81, vb_X7_gather_87, vb_X7_gather_89, vb_X7_gather_109, vb_X7_gather_139, vb_X7_gather_140, vb_X7_gather_148, vb_X7_gather_159, xI_0, xI_1, xI_3, xI_6, xI_7, xI_8, xI_14, xI_20, xI_22, xI_33, xI_34, xI_36, xI_37, xI_38, xI_44, xI_46, xI_49, xI_50, xI_51, xI_52, xI_60, xI_61, xI_62, xw_X7_gather_0, xw_X7_gather_21, xw_X7_gather_28, xw_X7_gather_81, xw_X7_gather_87, xw_X7_gather_89, xw_X7_gather_109, xw_X7_gather_139, xw_X7_gather_140, xw_X7_gather_148, xw_X7_gather_159, zw_lit, xB_c, xB_s, xB_n, i1_c, j2_c, k1_c, jJ_e, xlg, xls, xla, xpd, ppush, zw_m1, zw_m2, zw_m3, gf_1_2, gf_1_4, gf_7_0, gf_7_1, gf_7_2, gf_7_3, gf_7_4, gf_9_2, pf_7_3, tg_1_2, tg_1_4, tg_7_0, tg_7_1, tg_7_2, tg_7_3, tg_7_4, tg_9_2, gv_1_2, gv_1_4, gv_451_0, gv_451_1, gv_451_2, gv_451_3, gv_451_4, gv_215_2, xD1, xD2, xD3, xD4, xD5, xD6, xb1_0, e4, c, c', q, q5, q6, z1] at h
          obtain ⟨m, hm, h⟩ := h
          obtain ⟨H', k', k1, k2, k3, k4⟩ := ih m hm (k + 1) H (by omega) hC h5 hD h
          exact ⟨H', k', k1, k2, k3, xJ_up k4 (by omega)⟩
      · have h := xw_top (hd := [28, 87, 89, 109]) 13 xD6_ok xc_X7_gather xa_X7_gather (t := 28) rfl h
        simp (maxDischargeDepth := 12) -implicitDefEqProofs [vb_X7_gather_0, vb_X7_gather_21, vb_X7_gather_28, vb_X7_gather_81, vb_X7_gather_87, vb_X7_gather_89, vb_X7_gather_109, vb_X7_gather_139, vb_X7_gather_140, vb_X7_gather_148, vb_X7_gather_159, xI_0, xI_1, xI_3, xI_6, xI_7, xI_8, xI_14, xI_20, xI_22, xI_33, xI_34, xI_36, xI_37, xI_38, xI_44, xI_46, xI_49, xI_50, xI_51, xI_52, xI_60, xI_61, xI_62, xw_X7_gather_0, xw_X7_gather_21, xw_X7_gather_28, xw_X7_gather_81, xw_X7_gather_87, xw_X7_gather_89, xw_X7_gather_109, xw_X7_gather_139, xw_X7_gather_140, xw_X7_gather_148, xw_X7_gather_159, zw_lit, xB_c, xB_s, xB_n, i1_c, j2_c, k1_c, jJ_e, xlg, xls, xla, xpd, ppush, zw_m1, zw_m2, zw_m3, gf_1_2, gf_1_4, gf_7_0, gf_7_1, gf_7_2, gf_7_3, gf_7_4, gf_9_2, pf_7_3, tg_1_2, tg_1_4, tg_7_0, tg_7_1, tg_7_2, tg_7_3, tg_7_4, tg_9_2, gv_1_2, gv_1_4, gv_451_0, gv_451_1, gv_451_2, gv_451_3, gv_451_4, gv_215_2, xD1, xD2, xD3, xD4, xD5, xD6, xb1_0, e4, c, c', q, z1] at h
        obtain ⟨m, hm, h⟩ := h
        obtain ⟨H', k', k1, k2, k3, k4⟩ := ih m hm (k + 1) H (by omega) hC h5 hD h
        exact ⟨H', k', k1, k2, k3, xJ_up k4 (by omega)⟩
    · have c' : S 0 2 ≤ k := by omega
      have h := xw_top (hd := [28, 87, 89, 109]) 13 xD6_ok xc_X7_gather xa_X7_gather (t := 28) rfl h
      simp (maxDischargeDepth := 12) -implicitDefEqProofs [vb_X7_gather_0, vb_X7_gather_21, vb_X7_gather_28, vb_X7_gather_81, vb_X7_gather_87, vb_X7_gather_89, vb_X7_gather_109, vb_X7_gather_139, vb_X7_gather_140, vb_X7_gather_148, vb_X7_gather_159, xI_0, xI_1, xI_3, xI_6, xI_7, xI_8, xI_14, xI_20, xI_22, xI_33, xI_34, xI_36, xI_37, xI_38, xI_44, xI_46, xI_49, xI_50, xI_51, xI_52, xI_60, xI_61, xI_62, xw_X7_gather_0, xw_X7_gather_21, xw_X7_gather_28, xw_X7_gather_81, xw_X7_gather_87, xw_X7_gather_89, xw_X7_gather_109, xw_X7_gather_139, xw_X7_gather_140, xw_X7_gather_148, xw_X7_gather_159, zw_lit, xB_c, xB_s, xB_n, i1_c, j2_c, k1_c, jJ_e, xlg, xls, xla, xpd, ppush, zw_m1, zw_m2, zw_m3, gf_1_2, gf_1_4, gf_7_0, gf_7_1, gf_7_2, gf_7_3, gf_7_4, gf_9_2, pf_7_3, tg_1_2, tg_1_4, tg_7_0, tg_7_1, tg_7_2, tg_7_3, tg_7_4, tg_9_2, gv_1_2, gv_1_4, gv_451_0, gv_451_1, gv_451_2, gv_451_3, gv_451_4, gv_215_2, xD1, xD2, xD3, xD4, xD5, xD6, xb1_0, e4, c, c'] at h
      exact ⟨H, k, hC, h5, hD, h⟩
set_option maxRecDepth 100000 in
theorem lp_ga109 (x b : Int) (S : Int → Int → Int) (N : Int) {E : xE} {res : xR} (H0 : PH) (h5 : 0 ≤ H0 451 3 ∧ H0 451 3 ≤ 5) (hD : DLs (S 0 2) H0) : ∀ (n : Nat) (i : Int) (H : PH), 0 ≤ i → SX H0 H S N → RUN E res n kd_X7_gather (zget kd_X7_gather 109) 109 [451, x, b, i] [] H → ∃ (H' : PH) (i' : Int), SX H0 H' S N ∧ xJ E res n kd_X7_gather 148 [451, x, b, i'] [] H' := by
  intro n
  induction n using Nat.strongRecOn with
  | _ n ih =>
    intro i H i0 hS h
    have e3 := hS.2.1
    by_cases c : i < H0 451 3
    · have c' : ¬ H0 451 3 ≤ i := by omega
      have z1 : zw (i + 1) = i + 1 := zw_lit (by omega) (by omega)
      have h := xw_top (hd := [28, 87, 89, 109, 148]) 13 xD6_ok xc_X7_gather xa_X7_gather (t := 109) rfl h
      simp (maxDischargeDepth := 12) -implicitDefEqProofs [vb_X7_gather_0, vb_X7_gather_21, vb_X7_gather_28, vb_X7_gather_81, vb_X7_gather_87, vb_X7_gather_89, vb_X7_gather_109, vb_X7_gather_139, vb_X7_gather_140, vb_X7_gather_148, vb_X7_gather_159, xI_0, xI_1, xI_3, xI_6, xI_7, xI_8, xI_14, xI_20, xI_22, xI_33, xI_34, xI_36, xI_37, xI_38, xI_44, xI_46, xI_49, xI_50, xI_51, xI_52, xI_60, xI_61, xI_62, xw_X7_gather_0, xw_X7_gather_21, xw_X7_gather_28, xw_X7_gather_81, xw_X7_gather_87, xw_X7_gather_89, xw_X7_gather_109, xw_X7_gather_139, xw_X7_gather_140, xw_X7_gather_148, xw_X7_gather_159, zw_lit, xB_c, xB_s, xB_n, i1_c, j2_c, k1_c, jJ_e, xlg, xls, xla, xpd, ppush, zw_m1, zw_m2, zw_m3, gf_1_2, gf_1_4, gf_7_0, gf_7_1, gf_7_2, gf_7_3, gf_7_4, gf_9_2, pf_7_3, tg_1_2, tg_1_4, tg_7_0, tg_7_1, tg_7_2, tg_7_3, tg_7_4, tg_9_2, gv_1_2, gv_1_4, gv_451_0, gv_451_1, gv_451_2, gv_451_3, gv_451_4, gv_215_2, xD1, xD2, xD3, xD4, xD5, xD6, xb1_0, e3, c, c'] at h
      obtain ⟨r, H1, ⟨⟨v, rfl⟩, s1⟩, g⟩ := xc_use h (sf_isNearest i b S N H hS.1.1 hS.1.2.1 (DLs_SX hS hD) (by rw [hS.2.1]; exact ⟨i0, c⟩))
      have t1 := SX_trans hS s1
      simp (maxDischargeDepth := 12) -implicitDefEqProofs [vb_X7_gather_0, vb_X7_gather_21, vb_X7_gather_28, vb_X7_gather_81, vb_X7_gather_87, vb_X7_gather_89, vb_X7_gather_109, vb_X7_gather_139, vb_X7_gather_140, vb_X7_gather_148, vb_X7_gather_159, xI_0, xI_1, xI_3, xI_6, xI_7, xI_8, xI_14, xI_20, xI_22, xI_33, xI_34, xI_36, xI_37, xI_38, xI_44, xI_46, xI_49, xI_50, xI_51, xI_52, xI_60, xI_61, xI_62, xw_X7_gather_0, xw_X7_gather_21, xw_X7_gather_28, xw_X7_gather_81, xw_X7_gather_87, xw_X7_gather_89, xw_X7_gather_109, xw_X7_gather_139, xw_X7_gather_140, xw_X7_gather_148, xw_X7_gather_159, zw_lit, xB_c, xB_s, xB_n, i1_c, j2_c, k1_c, jJ_e, xlg, xls, xla, xpd, ppush, zw_m1, zw_m2, zw_m3, gf_1_2, gf_1_4, gf_7_0, gf_7_1, gf_7_2, gf_7_3, gf_7_4, gf_9_2, pf_7_3, tg_1_2, tg_1_4, tg_7_0, tg_7_1, tg_7_2, tg_7_3, tg_7_4, tg_9_2, gv_1_2, gv_1_4, gv_451_0, gv_451_1, gv_451_2, gv_451_3, gv_451_4, gv_215_2, xD1, xD2, xD3, xD4, xD5, xD6, xb1_0, z1] at g
      rcases g with ⟨_, m, hm, g⟩ | ⟨_, m, hm, g⟩
      all_goals
        obtain ⟨H', i', k1, k2⟩ := ih m hm (i + 1) _ (by omega) (SX_up (by omega) t1) g
        exact ⟨H', i', k1, xJ_up k2 (by omega)⟩
    · have c' : H0 451 3 ≤ i := by omega
      have h := xw_top (hd := [28, 87, 89, 109, 148]) 13 xD6_ok xc_X7_gather xa_X7_gather (t := 109) rfl h
      simp (maxDischargeDepth := 12) -implicitDefEqProofs [vb_X7_gather_0, vb_X7_gather_21, vb_X7_gather_28, vb_X7_gather_81, vb_X7_gather_87, vb_X7_gather_89, vb_X7_gather_109, vb_X7_gather_139, vb_X7_gather_140, vb_X7_gather_148, vb_X7_gather_159, xI_0, xI_1, xI_3, xI_6, xI_7, xI_8, xI_14, xI_20, xI_22, xI_33, xI_34, xI_36, xI_37, xI_38, xI_44, xI_46, xI_49, xI_50, xI_51, xI_52, xI_60, xI_61, xI_62, xw_X7_gather_0, xw_X7_gather_21, xw_X7_gather_28, xw_X7_gather_81, xw_X7_gather_87, xw_X7_gather_89, xw_X7_gather_109, xw_X7_gather_139, xw_X7_gather_140, xw_X7_gather_148, xw_X7_gather_159, zw_lit, xB_c, xB_s, xB_n, i1_c, j2_c, k1_c, jJ_e, xlg, xls, xla, xpd, ppush, zw_m1, zw_m2, zw_m3, gf_1_2, gf_1_4, gf_7_0, gf_7_1, gf_7_2, gf_7_3, gf_7_4, gf_9_2, pf_7_3, tg_1_2, tg_1_4, tg_7_0, tg_7_1, tg_7_2, tg_7_3, tg_7_4, tg_9_2, gv_1_2, gv_1_4, gv_451_0, gv_451_1, gv_451_2, gv_451_3, gv_451_4, gv_215_2, xD1, xD2, xD3, xD4, xD5, xD6, xb1_0, e3, c, c'] at h
      exact ⟨H, i, hS, h⟩
set_option maxRecDepth 100000 in
theorem lp_ga89 (x : Int) (S : Int → Int → Int) (N : Int) {E : xE} {res : xR} (H0 : PH) (h5 : 0 ≤ H0 451 3 ∧ H0 451 3 ≤ 5) (hD : DLs (S 0 2) H0) : ∀ (n : Nat) (b y : Int) (H : PH), 0 ≤ b → SX H0 H S N → RUN E res n kd_X7_gather (zget kd_X7_gather 89) 89 [451, x, b, y] [] H → ∃ H', SX H0 H' S N ∧ REPR E res (some (0, 1)) H' := by
  intro n
  induction n using Nat.strongRecOn with
  | _ n ih =>
    intro b y H b0 hS h
    have ok := RC_sz hS.1.1
    have a0 := ok.1.1
    have e2 : H 1 2 = S 0 0 := hS.1.1.1.1.1.1.symm
    by_cases c : b < S 0 0
    · have c' : ¬ S 0 0 ≤ b := by omega
      have z1 : zw (b + 1) = b + 1 := zw_lit (by omega) (by omega)
      have h := xw_top (hd := [28, 87, 89, 109, 148]) 13 xD6_ok xc_X7_gather xa_X7_gather (t := 89) rfl h
      simp (maxDischargeDepth := 12) -implicitDefEqProofs [vb_X7_gather_0, vb_X7_gather_21, vb_X7_gather_28, vb_X7_gather_81, vb_X7_gather_87, vb_X7_gather_89, vb_X7_gather_109, vb_X7_gather_139, vb_X7_gather_140, vb_X7_gather_148, vb_X7_gather_159, xI_0, xI_1, xI_3, xI_6, xI_7, xI_8, xI_14, xI_20, xI_22, xI_33, xI_34, xI_36, xI_37, xI_38, xI_44, xI_46, xI_49, xI_50, xI_51, xI_52, xI_60, xI_61, xI_62, xw_X7_gather_0, xw_X7_gather_21, xw_X7_gather_28, xw_X7_gather_81, xw_X7_gather_87, xw_X7_gather_89, xw_X7_gather_109, xw_X7_gather_139, xw_X7_gather_140, xw_X7_gather_148, xw_X7_gather_159, zw_lit, xB_c, xB_s, xB_n, i1_c, j2_c, k1_c, jJ_e, xlg, xls, xla, xpd, ppush, zw_m1, zw_m2, zw_m3, gf_1_2, gf_1_4, gf_7_0, gf_7_1, gf_7_2, gf_7_3, gf_7_4, gf_9_2, pf_7_3, tg_1_2, tg_1_4, tg_7_0, tg_7_1, tg_7_2, tg_7_3, tg_7_4, tg_9_2, gv_1_2, gv_1_4, gv_451_0, gv_451_1, gv_451_2, gv_451_3, gv_451_4, gv_215_2, xD1, xD2, xD3, xD4, xD5, xD6, xb1_0, e2, c, c'] at h
      obtain ⟨m, hm, h⟩ := h
      have s0 : SX H0 (pup H 453 b 0) S N := SX_up (by omega) hS
      obtain ⟨H1, i1, k1, m2, hm2, k2⟩ := lp_ga109 x b S N H0 h5 hD m 0 _ (by omega) s0 h
      have k2 := xw_top (hd := [28, 87, 89, 109, 148]) 13 xD6_ok xc_X7_gather xa_X7_gather (t := 148) rfl k2
      simp (maxDischargeDepth := 12) -implicitDefEqProofs [vb_X7_gather_0, vb_X7_gather_21, vb_X7_gather_28, vb_X7_gather_81, vb_X7_gather_87, vb_X7_gather_89, vb_X7_gather_109, vb_X7_gather_139, vb_X7_gather_140, vb_X7_gather_148, vb_X7_gather_159, xI_0, xI_1, xI_3, xI_6, xI_7, xI_8, xI_14, xI_20, xI_22, xI_33, xI_34, xI_36, xI_37, xI_38, xI_44, xI_46, xI_49, xI_50, xI_51, xI_52, xI_60, xI_61, xI_62, xw_X7_gather_0, xw_X7_gather_21, xw_X7_gather_28, xw_X7_gather_81, xw_X7_gather_87, xw_X7_gather_89, xw_X7_gather_109, xw_X7_gather_139, xw_X7_gather_140, xw_X7_gather_148, xw_X7_gather_159, zw_lit, xB_c, xB_s, xB_n, i1_c, j2_c, k1_c, jJ_e, xlg, xls, xla, xpd, ppush, zw_m1, zw_m2, zw_m3, gf_1_2, gf_1_4, gf_7_0, gf_7_1, gf_7_2, gf_7_3, gf_7_4, gf_9_2, pf_7_3, tg_1_2, tg_1_4, tg_7_0, tg_7_1, tg_7_2, tg_7_3, tg_7_4, tg_9_2, gv_1_2, gv_1_4, gv_451_0, gv_451_1, gv_451_2, gv_451_3, gv_451_4, gv_215_2, xD1, xD2, xD3, xD4, xD5, xD6, xb1_0] at k2
      obtain ⟨r, H2, ⟨rfl, s2⟩, g⟩ := xc_use k2 (sf_weigh b S N H1 k1.1.1 k1.1.2.1 ⟨b0, c⟩)
      simp (maxDischargeDepth := 12) -implicitDefEqProofs [vb_X7_gather_0, vb_X7_gather_21, vb_X7_gather_28, vb_X7_gather_81, vb_X7_gather_87, vb_X7_gather_89, vb_X7_gather_109, vb_X7_gather_139, vb_X7_gather_140, vb_X7_gather_148, vb_X7_gather_159, xI_0, xI_1, xI_3, xI_6, xI_7, xI_8, xI_14, xI_20, xI_22, xI_33, xI_34, xI_36, xI_37, xI_38, xI_44, xI_46, xI_49, xI_50, xI_51, xI_52, xI_60, xI_61, xI_62, xw_X7_gather_0, xw_X7_gather_21, xw_X7_gather_28, xw_X7_gather_81, xw_X7_gather_87, xw_X7_gather_89, xw_X7_gather_109, xw_X7_gather_139, xw_X7_gather_140, xw_X7_gather_148, xw_X7_gather_159, zw_lit, xB_c, xB_s, xB_n, i1_c, j2_c, k1_c, jJ_e, xlg, xls, xla, xpd, ppush, zw_m1, zw_m2, zw_m3, gf_1_2, gf_1_4, gf_7_0, gf_7_1, gf_7_2, gf_7_3, gf_7_4, gf_9_2, pf_7_3, tg_1_2, tg_1_4, tg_7_0, tg_7_1, tg_7_2, tg_7_3, tg_7_4, tg_9_2, gv_1_2, gv_1_4, gv_451_0, gv_451_1, gv_451_2, gv_451_3, gv_451_4, gv_215_2, xD1, xD2, xD3, xD4, xD5, xD6, xb1_0, z1] at g
      obtain ⟨m3, hm3, g⟩ := g
      exact ih m3 (by omega) (b + 1) _ H2 (by omega) (SX_trans k1 s2) g
    · have c' : S 0 0 ≤ b := by omega
      have h := xw_top (hd := [28, 87, 89, 109, 148]) 13 xD6_ok xc_X7_gather xa_X7_gather (t := 89) rfl h
      simp (maxDischargeDepth := 12) -implicitDefEqProofs [vb_X7_gather_0, vb_X7_gather_21, vb_X7_gather_28, vb_X7_gather_81, vb_X7_gather_87, vb_X7_gather_89, vb_X7_gather_109, vb_X7_gather_139, vb_X7_gather_140, vb_X7_gather_148, vb_X7_gather_159, xI_0, xI_1, xI_3, xI_6, xI_7, xI_8, xI_14, xI_20, xI_22, xI_33, xI_34, xI_36, xI_37, xI_38, xI_44, xI_46, xI_49, xI_50, xI_51, xI_52, xI_60, xI_61, xI_62, xw_X7_gather_0, xw_X7_gather_21, xw_X7_gather_28, xw_X7_gather_81, xw_X7_gather_87, xw_X7_gather_89, xw_X7_gather_109, xw_X7_gather_139, xw_X7_gather_140, xw_X7_gather_148, xw_X7_gather_159, zw_lit, xB_c, xB_s, xB_n, i1_c, j2_c, k1_c, jJ_e, xlg, xls, xla, xpd, ppush, zw_m1, zw_m2, zw_m3, gf_1_2, gf_1_4, gf_7_0, gf_7_1, gf_7_2, gf_7_3, gf_7_4, gf_9_2, pf_7_3, tg_1_2, tg_1_4, tg_7_0, tg_7_1, tg_7_2, tg_7_3, tg_7_4, tg_9_2, gv_1_2, gv_1_4, gv_451_0, gv_451_1, gv_451_2, gv_451_3, gv_451_4, gv_215_2, xD1, xD2, xD3, xD4, xD5, xD6, xb1_0, e2, c, c'] at h
      exact ⟨H, hS, h⟩
theorem sf_gather (S : Int → Int → Int) (n : Int) (H : PH) (hR : RC H S n) (hM : MCC (S 0) H) (hT : TCf (S 0) H) : SPEC 63 [(2, 451)] H (fun r H' => (∃ v, r = some (0, v)) ∧ CQ H H' S n ∧ (r = some (0, 0) ∨ ((0 ≤ H' 451 3 ∧ H' 451 3 ≤ 5) ∧ DLs (S 0 2) H'))) := by
  intro E n' res h
  have ok := RC_sz hR
  have h := call_runP 4 vm_X7_gather h
  have h := xw_top (hd := [28, 87, 89, 109, 148]) 13 xD6_ok xc_X7_gather xa_X7_gather (t := 0) rfl h
  simp (maxDischargeDepth := 12) -implicitDefEqProofs [vb_X7_gather_0, vb_X7_gather_21, vb_X7_gather_28, vb_X7_gather_81, vb_X7_gather_87, vb_X7_gather_89, vb_X7_gather_109, vb_X7_gather_139, vb_X7_gather_140, vb_X7_gather_148, vb_X7_gather_159, xI_0, xI_1, xI_3, xI_6, xI_7, xI_8, xI_14, xI_20, xI_22, xI_33, xI_34, xI_36, xI_37, xI_38, xI_44, xI_46, xI_49, xI_50, xI_51, xI_52, xI_60, xI_61, xI_62, xw_X7_gather_0, xw_X7_gather_21, xw_X7_gather_28, xw_X7_gather_81, xw_X7_gather_87, xw_X7_gather_89, xw_X7_gather_109, xw_X7_gather_139, xw_X7_gather_140, xw_X7_gather_148, xw_X7_gather_159, zw_lit, xB_c, xB_s, xB_n, i1_c, j2_c, k1_c, jJ_e, xlg, xls, xla, xpd, ppush, zw_m1, zw_m2, zw_m3, gf_1_2, gf_1_4, gf_7_0, gf_7_1, gf_7_2, gf_7_3, gf_7_4, gf_9_2, pf_7_3, tg_1_2, tg_1_4, tg_7_0, tg_7_1, tg_7_2, tg_7_3, tg_7_4, tg_9_2, gv_1_2, gv_1_4, gv_451_0, gv_451_1, gv_451_2, gv_451_3, gv_451_4, gv_215_2, xD1, xD2, xD3, xD4, xD5, xD6, xb1_0] at h
  obtain ⟨r, H1, ⟨rfl, rfl⟩, g⟩ := xc_use h (sp_X9_linesThatAre (-2) (S 0) H ok.1 hR.1 hT)
  simp (maxDischargeDepth := 12) -implicitDefEqProofs [vb_X7_gather_0, vb_X7_gather_21, vb_X7_gather_28, vb_X7_gather_81, vb_X7_gather_87, vb_X7_gather_89, vb_X7_gather_109, vb_X7_gather_139, vb_X7_gather_140, vb_X7_gather_148, vb_X7_gather_159, xI_0, xI_1, xI_3, xI_6, xI_7, xI_8, xI_14, xI_20, xI_22, xI_33, xI_34, xI_36, xI_37, xI_38, xI_44, xI_46, xI_49, xI_50, xI_51, xI_52, xI_60, xI_61, xI_62, xw_X7_gather_0, xw_X7_gather_21, xw_X7_gather_28, xw_X7_gather_81, xw_X7_gather_87, xw_X7_gather_89, xw_X7_gather_109, xw_X7_gather_139, xw_X7_gather_140, xw_X7_gather_148, xw_X7_gather_159, zw_lit, xB_c, xB_s, xB_n, i1_c, j2_c, k1_c, jJ_e, xlg, xls, xla, xpd, ppush, zw_m1, zw_m2, zw_m3, gf_1_2, gf_1_4, gf_7_0, gf_7_1, gf_7_2, gf_7_3, gf_7_4, gf_9_2, pf_7_3, tg_1_2, tg_1_4, tg_7_0, tg_7_1, tg_7_2, tg_7_3, tg_7_4, tg_9_2, gv_1_2, gv_1_4, gv_451_0, gv_451_1, gv_451_2, gv_451_3, gv_451_4, gv_215_2, xD1, xD2, xD3, xD4, xD5, xD6, xb1_0] at g
  by_cases q : 1 ≤ cnQ (S 0) (-2) ∧ cnQ (S 0) (-2) ≤ 5
  · have g := (g.resolve_right (fun w => by have := w.1; omega)).2
    obtain ⟨m, hm, g⟩ := g
    obtain ⟨H2, k', k1, k2, k3, m2, hm2, k4⟩ := lp_ga28 _ _ S n _ m 0 _ (by omega) (CQ_up (c := 451) (i := 3) (v := 0) (by decide) (CQ_refl hR hM)) (by rw [xp_at, if_pos rfl]; decide) (fun i i0 i1 => by rw [xp_at, if_pos rfl] at i1; omega) g
    have k4 := xw_top (hd := [28, 87, 89, 109, 148]) 13 xD6_ok xc_X7_gather xa_X7_gather (t := 87) rfl k4
    simp (maxDischargeDepth := 12) -implicitDefEqProofs [vb_X7_gather_0, vb_X7_gather_21, vb_X7_gather_28, vb_X7_gather_81, vb_X7_gather_87, vb_X7_gather_89, vb_X7_gather_109, vb_X7_gather_139, vb_X7_gather_140, vb_X7_gather_148, vb_X7_gather_159, xI_0, xI_1, xI_3, xI_6, xI_7, xI_8, xI_14, xI_20, xI_22, xI_33, xI_34, xI_36, xI_37, xI_38, xI_44, xI_46, xI_49, xI_50, xI_51, xI_52, xI_60, xI_61, xI_62, xw_X7_gather_0, xw_X7_gather_21, xw_X7_gather_28, xw_X7_gather_81, xw_X7_gather_87, xw_X7_gather_89, xw_X7_gather_109, xw_X7_gather_139, xw_X7_gather_140, xw_X7_gather_148, xw_X7_gather_159, zw_lit, xB_c, xB_s, xB_n, i1_c, j2_c, k1_c, jJ_e, xlg, xls, xla, xpd, ppush, zw_m1, zw_m2, zw_m3, gf_1_2, gf_1_4, gf_7_0, gf_7_1, gf_7_2, gf_7_3, gf_7_4, gf_9_2, pf_7_3, tg_1_2, tg_1_4, tg_7_0, tg_7_1, tg_7_2, tg_7_3, tg_7_4, tg_9_2, gv_1_2, gv_1_4, gv_451_0, gv_451_1, gv_451_2, gv_451_3, gv_451_4, gv_215_2, xD1, xD2, xD3, xD4, xD5, xD6, xb1_0] at k4
    obtain ⟨m3, hm3, k4⟩ := k4
    obtain ⟨H3, j1, j2⟩ := lp_ga89 _ S n H2 k2 k3 m3 0 _ H2 (by omega) (SX_refl k1.1 k1.2.1) k4
    exact ⟨_, H3, j2, ⟨_, rfl⟩, CQ_trans k1 j1.1, Or.inr ⟨by rw [j1.2.1]; exact k2, DLs_SX j1 k3⟩⟩
  · have g := (g.resolve_left (fun w => by have := w.1; omega)).2
    exact ⟨_, _, g, ⟨_, rfl⟩, CQ_refl hR hM, Or.inl rfl⟩
set_option maxRecDepth 100000 in
theorem sf_settled (k : Int) (S : Int → Int → Int) (n : Int) (H : PH) (hR : RC H S n) (hM : MCC (S 0) H) : SPEC 139 [(2, 0), (0, k)] H (fun r H' => (∃ v, r = some (0, v)) ∧ CQ H H' S n) := by
  intro E n' res h
  have h := call_runP 2 vm_X11_settled h
  have h := xw_top (hd := []) 6 xD6_ok xc_X11_settled xa_X11_settled (t := 0) rfl h
  simp (maxDischargeDepth := 12) -implicitDefEqProofs [vb_X11_settled_0, vb_X11_settled_19, vb_X11_settled_34, vb_X11_settled_42, xI_0, xI_1, xI_7, xI_36, xI_38, xI_44, xI_49, xI_61, xI_62, xw_X11_settled_0, xw_X11_settled_19, xw_X11_settled_34, xw_X11_settled_42, zw_lit, xB_c, xB_s, xB_n, i1_c, j2_c, k1_c, jJ_e, xlg, xls, xla, xpd, ppush, zw_m1, zw_m2, zw_m3, gf_11_2, gf_11_5, tg_11_2, tg_11_5, gv_0_2, gv_0_5, xD1, xD2, xD3, xD4, xD5, xD6, xb1_0] at h
  obtain ⟨r, H1, ⟨rfl, cq, t⟩, g⟩ := xc_use h (sp_c_refresh S n H hR hM)
  simp (maxDischargeDepth := 12) -implicitDefEqProofs [vb_X11_settled_0, vb_X11_settled_19, vb_X11_settled_34, vb_X11_settled_42, xI_0, xI_1, xI_7, xI_36, xI_38, xI_44, xI_49, xI_61, xI_62, xw_X11_settled_0, xw_X11_settled_19, xw_X11_settled_34, xw_X11_settled_42, zw_lit, xB_c, xB_s, xB_n, i1_c, j2_c, k1_c, jJ_e, xlg, xls, xla, xpd, ppush, zw_m1, zw_m2, zw_m3, gf_11_2, gf_11_5, tg_11_2, tg_11_5, gv_0_2, gv_0_5, xD1, xD2, xD3, xD4, xD5, xD6, xb1_0] at g
  obtain ⟨r, H2, ⟨⟨v, rfl⟩, cq2, p⟩, g2⟩ := xc_use g (sf_gather S n H1 cq.1 cq.2.1 t)
  have c2 := CQ_trans cq cq2
  simp (maxDischargeDepth := 12) -implicitDefEqProofs [vb_X11_settled_0, vb_X11_settled_19, vb_X11_settled_34, vb_X11_settled_42, xI_0, xI_1, xI_7, xI_36, xI_38, xI_44, xI_49, xI_61, xI_62, xw_X11_settled_0, xw_X11_settled_19, xw_X11_settled_34, xw_X11_settled_42, zw_lit, xB_c, xB_s, xB_n, i1_c, j2_c, k1_c, jJ_e, xlg, xls, xla, xpd, ppush, zw_m1, zw_m2, zw_m3, gf_11_2, gf_11_5, tg_11_2, tg_11_5, gv_0_2, gv_0_5, xD1, xD2, xD3, xD4, xD5, xD6, xb1_0] at g2
  by_cases v0 : v = 0
  · have g2 := (g2.resolve_left (fun w => w.1 v0)).2
    exact ⟨_, _, g2, ⟨_, rfl⟩, c2⟩
  · have g2 := (g2.resolve_right (fun w => v0 w.1)).2
    have p : (0 ≤ H2 451 3 ∧ H2 451 3 ≤ 5) ∧ DLs (S 0 2) H2 := by
      rcases p with p | p
      · exact (v0 (congrArg (fun o => (o.getD (0, 0)).2) p)).elim
      · exact p
    rcases g2 with ⟨_, g2⟩ | ⟨_, g2⟩
    · obtain ⟨r, H3, ⟨⟨v3, rfl⟩, s3⟩, g3⟩ := xc_use g2 (sf_billFor k S n H2 cq2.1 cq2.2.1 p.2 p.1.2)
      simp (maxDischargeDepth := 12) -implicitDefEqProofs [vb_X11_settled_0, vb_X11_settled_19, vb_X11_settled_34, vb_X11_settled_42, xI_0, xI_1, xI_7, xI_36, xI_38, xI_44, xI_49, xI_61, xI_62, xw_X11_settled_0, xw_X11_settled_19, xw_X11_settled_34, xw_X11_settled_42, zw_lit, xB_c, xB_s, xB_n, i1_c, j2_c, k1_c, jJ_e, xlg, xls, xla, xpd, ppush, zw_m1, zw_m2, zw_m3, gf_11_2, gf_11_5, tg_11_2, tg_11_5, gv_0_2, gv_0_5, xD1, xD2, xD3, xD4, xD5, xD6, xb1_0] at g3
      exact ⟨_, H3, g3, ⟨_, rfl⟩, CQ_trans c2 s3.1⟩
    · obtain ⟨r, H3, ⟨⟨v3, rfl⟩, s3⟩, g3⟩ := xc_use g2 (sf_leastInAll S n H2 cq2.1 cq2.2.1)
      simp (maxDischargeDepth := 12) -implicitDefEqProofs [vb_X11_settled_0, vb_X11_settled_19, vb_X11_settled_34, vb_X11_settled_42, xI_0, xI_1, xI_7, xI_36, xI_38, xI_44, xI_49, xI_61, xI_62, xw_X11_settled_0, xw_X11_settled_19, xw_X11_settled_34, xw_X11_settled_42, zw_lit, xB_c, xB_s, xB_n, i1_c, j2_c, k1_c, jJ_e, xlg, xls, xla, xpd, ppush, zw_m1, zw_m2, zw_m3, gf_11_2, gf_11_5, tg_11_2, tg_11_5, gv_0_2, gv_0_5, xD1, xD2, xD3, xD4, xD5, xD6, xb1_0] at g3
      exact ⟨_, H3, g3, ⟨_, rfl⟩, CQ_trans c2 s3.1⟩
