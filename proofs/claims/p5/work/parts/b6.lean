theorem gf_12_6 : gfOK 12 6 = true := by decide +kernel
theorem gf_12_9 : gfOK 12 9 = true := by decide +kernel
theorem gf_12_10 : gfOK 12 10 = true := by decide +kernel
theorem gf_12_11 : gfOK 12 11 = true := by decide +kernel
theorem gf_12_12 : gfOK 12 12 = true := by decide +kernel
theorem gf_12_13 : gfOK 12 13 = true := by decide +kernel
theorem gf_12_14 : gfOK 12 14 = true := by decide +kernel
theorem pf_12_10 : pfOK 12 10 = true := by decide +kernel
theorem pf_12_11 : pfOK 12 11 = true := by decide +kernel
theorem pf_12_14 : pfOK 12 14 = true := by decide +kernel
def xm_X12_does : List xbT := [(0, vb_X12_does_0, none)]
theorem xc_X12_does : xOK kd_X12_does xm_X12_does := ⟨ve_X12_does_0, trivial⟩
theorem xa_X12_does : xm_X12_does.all (fun q => aOKb q.2.1 && !q.2.1.isEmpty) = true := by decide +kernel
theorem xw_X12_does_0 {E : xE} {res : xR} {N : Nat} {hd : List Nat} {C : xCT} {k : Nat} {L : List Int} {st : List pv} {H : PH} : xW E res N kd_X12_does xm_X12_does hd C (k + 1) 0 L st H = xB (fun t L st H => if t ∈ hd then xJ E res N kd_X12_does t L st H else xW E res N kd_X12_does xm_X12_does hd C k t L st H) (REPR E res) C (none) vb_X12_does_0 0 L st H := Eq.trans rfl rfl
def xm_X12_goesOn : List xbT := [(0, vb_X12_goesOn_0, some 28), (28, vb_X12_goesOn_28, some 64), (64, vb_X12_goesOn_64, some 87), (87, vb_X12_goesOn_87, some 112), (112, vb_X12_goesOn_112, some 134), (134, vb_X12_goesOn_134, some 164), (164, vb_X12_goesOn_164, some 165), (165, vb_X12_goesOn_165, some 166), (166, vb_X12_goesOn_166, some 184), (184, vb_X12_goesOn_184, none)]
theorem xc_X12_goesOn : xOK kd_X12_goesOn xm_X12_goesOn := ⟨ve_X12_goesOn_0, ve_X12_goesOn_28, ve_X12_goesOn_64, ve_X12_goesOn_87, ve_X12_goesOn_112, ve_X12_goesOn_134, ve_X12_goesOn_164, ve_X12_goesOn_165, ve_X12_goesOn_166, ve_X12_goesOn_184, trivial⟩
theorem xa_X12_goesOn : xm_X12_goesOn.all (fun q => aOKb q.2.1 && !q.2.1.isEmpty) = true := by decide +kernel
theorem xw_X12_goesOn_0 {E : xE} {res : xR} {N : Nat} {hd : List Nat} {C : xCT} {k : Nat} {L : List Int} {st : List pv} {H : PH} : xW E res N kd_X12_goesOn xm_X12_goesOn hd C (k + 1) 0 L st H = xB (fun t L st H => if t ∈ hd then xJ E res N kd_X12_goesOn t L st H else xW E res N kd_X12_goesOn xm_X12_goesOn hd C k t L st H) (REPR E res) C (some 28) vb_X12_goesOn_0 0 L st H := Eq.trans rfl rfl
theorem xw_X12_goesOn_28 {E : xE} {res : xR} {N : Nat} {hd : List Nat} {C : xCT} {k : Nat} {L : List Int} {st : List pv} {H : PH} : xW E res N kd_X12_goesOn xm_X12_goesOn hd C (k + 1) 28 L st H = xB (fun t L st H => if t ∈ hd then xJ E res N kd_X12_goesOn t L st H else xW E res N kd_X12_goesOn xm_X12_goesOn hd C k t L st H) (REPR E res) C (some 64) vb_X12_goesOn_28 28 L st H := Eq.trans rfl rfl
theorem xw_X12_goesOn_64 {E : xE} {res : xR} {N : Nat} {hd : List Nat} {C : xCT} {k : Nat} {L : List Int} {st : List pv} {H : PH} : xW E res N kd_X12_goesOn xm_X12_goesOn hd C (k + 1) 64 L st H = xB (fun t L st H => if t ∈ hd then xJ E res N kd_X12_goesOn t L st H else xW E res N kd_X12_goesOn xm_X12_goesOn hd C k t L st H) (REPR E res) C (some 87) vb_X12_goesOn_64 64 L st H := Eq.trans rfl rfl
theorem xw_X12_goesOn_87 {E : xE} {res : xR} {N : Nat} {hd : List Nat} {C : xCT} {k : Nat} {L : List Int} {st : List pv} {H : PH} : xW E res N kd_X12_goesOn xm_X12_goesOn hd C (k + 1) 87 L st H = xB (fun t L st H => if t ∈ hd then xJ E res N kd_X12_goesOn t L st H else xW E res N kd_X12_goesOn xm_X12_goesOn hd C k t L st H) (REPR E res) C (some 112) vb_X12_goesOn_87 87 L st H := Eq.trans rfl rfl
theorem xw_X12_goesOn_112 {E : xE} {res : xR} {N : Nat} {hd : List Nat} {C : xCT} {k : Nat} {L : List Int} {st : List pv} {H : PH} : xW E res N kd_X12_goesOn xm_X12_goesOn hd C (k + 1) 112 L st H = xB (fun t L st H => if t ∈ hd then xJ E res N kd_X12_goesOn t L st H else xW E res N kd_X12_goesOn xm_X12_goesOn hd C k t L st H) (REPR E res) C (some 134) vb_X12_goesOn_112 112 L st H := Eq.trans rfl rfl
theorem xw_X12_goesOn_134 {E : xE} {res : xR} {N : Nat} {hd : List Nat} {C : xCT} {k : Nat} {L : List Int} {st : List pv} {H : PH} : xW E res N kd_X12_goesOn xm_X12_goesOn hd C (k + 1) 134 L st H = xB (fun t L st H => if t ∈ hd then xJ E res N kd_X12_goesOn t L st H else xW E res N kd_X12_goesOn xm_X12_goesOn hd C k t L st H) (REPR E res) C (some 164) vb_X12_goesOn_134 134 L st H := Eq.trans rfl rfl
theorem xw_X12_goesOn_164 {E : xE} {res : xR} {N : Nat} {hd : List Nat} {C : xCT} {k : Nat} {L : List Int} {st : List pv} {H : PH} : xW E res N kd_X12_goesOn xm_X12_goesOn hd C (k + 1) 164 L st H = xB (fun t L st H => if t ∈ hd then xJ E res N kd_X12_goesOn t L st H else xW E res N kd_X12_goesOn xm_X12_goesOn hd C k t L st H) (REPR E res) C (some 165) vb_X12_goesOn_164 164 L st H := Eq.trans rfl rfl
theorem xw_X12_goesOn_165 {E : xE} {res : xR} {N : Nat} {hd : List Nat} {C : xCT} {k : Nat} {L : List Int} {st : List pv} {H : PH} : xW E res N kd_X12_goesOn xm_X12_goesOn hd C (k + 1) 165 L st H = xB (fun t L st H => if t ∈ hd then xJ E res N kd_X12_goesOn t L st H else xW E res N kd_X12_goesOn xm_X12_goesOn hd C k t L st H) (REPR E res) C (some 166) vb_X12_goesOn_165 165 L st H := Eq.trans rfl rfl
theorem xw_X12_goesOn_166 {E : xE} {res : xR} {N : Nat} {hd : List Nat} {C : xCT} {k : Nat} {L : List Int} {st : List pv} {H : PH} : xW E res N kd_X12_goesOn xm_X12_goesOn hd C (k + 1) 166 L st H = xB (fun t L st H => if t ∈ hd then xJ E res N kd_X12_goesOn t L st H else xW E res N kd_X12_goesOn xm_X12_goesOn hd C k t L st H) (REPR E res) C (some 184) vb_X12_goesOn_166 166 L st H := Eq.trans rfl rfl
theorem xw_X12_goesOn_184 {E : xE} {res : xR} {N : Nat} {hd : List Nat} {C : xCT} {k : Nat} {L : List Int} {st : List pv} {H : PH} : xW E res N kd_X12_goesOn xm_X12_goesOn hd C (k + 1) 184 L st H = xB (fun t L st H => if t ∈ hd then xJ E res N kd_X12_goesOn t L st H else xW E res N kd_X12_goesOn xm_X12_goesOn hd C k t L st H) (REPR E res) C (none) vb_X12_goesOn_184 184 L st H := Eq.trans rfl rfl
def xm_X12_readThing : List xbT := [(0, vb_X12_readThing_0, some 26), (26, vb_X12_readThing_26, some 30), (30, vb_X12_readThing_30, some 31), (31, vb_X12_readThing_31, some 54), (54, vb_X12_readThing_54, some 64), (64, vb_X12_readThing_64, some 91), (91, vb_X12_readThing_91, some 101), (101, vb_X12_readThing_101, some 131), (131, vb_X12_readThing_131, none)]
theorem xc_X12_readThing : xOK kd_X12_readThing xm_X12_readThing := ⟨ve_X12_readThing_0, ve_X12_readThing_26, ve_X12_readThing_30, ve_X12_readThing_31, ve_X12_readThing_54, ve_X12_readThing_64, ve_X12_readThing_91, ve_X12_readThing_101, ve_X12_readThing_131, trivial⟩
theorem xa_X12_readThing : xm_X12_readThing.all (fun q => aOKb q.2.1 && !q.2.1.isEmpty) = true := by decide +kernel
theorem xw_X12_readThing_0 {E : xE} {res : xR} {N : Nat} {hd : List Nat} {C : xCT} {k : Nat} {L : List Int} {st : List pv} {H : PH} : xW E res N kd_X12_readThing xm_X12_readThing hd C (k + 1) 0 L st H = xB (fun t L st H => if t ∈ hd then xJ E res N kd_X12_readThing t L st H else xW E res N kd_X12_readThing xm_X12_readThing hd C k t L st H) (REPR E res) C (some 26) vb_X12_readThing_0 0 L st H := Eq.trans rfl rfl
theorem xw_X12_readThing_26 {E : xE} {res : xR} {N : Nat} {hd : List Nat} {C : xCT} {k : Nat} {L : List Int} {st : List pv} {H : PH} : xW E res N kd_X12_readThing xm_X12_readThing hd C (k + 1) 26 L st H = xB (fun t L st H => if t ∈ hd then xJ E res N kd_X12_readThing t L st H else xW E res N kd_X12_readThing xm_X12_readThing hd C k t L st H) (REPR E res) C (some 30) vb_X12_readThing_26 26 L st H := Eq.trans rfl rfl
theorem xw_X12_readThing_30 {E : xE} {res : xR} {N : Nat} {hd : List Nat} {C : xCT} {k : Nat} {L : List Int} {st : List pv} {H : PH} : xW E res N kd_X12_readThing xm_X12_readThing hd C (k + 1) 30 L st H = xB (fun t L st H => if t ∈ hd then xJ E res N kd_X12_readThing t L st H else xW E res N kd_X12_readThing xm_X12_readThing hd C k t L st H) (REPR E res) C (some 31) vb_X12_readThing_30 30 L st H := Eq.trans rfl rfl
theorem xw_X12_readThing_31 {E : xE} {res : xR} {N : Nat} {hd : List Nat} {C : xCT} {k : Nat} {L : List Int} {st : List pv} {H : PH} : xW E res N kd_X12_readThing xm_X12_readThing hd C (k + 1) 31 L st H = xB (fun t L st H => if t ∈ hd then xJ E res N kd_X12_readThing t L st H else xW E res N kd_X12_readThing xm_X12_readThing hd C k t L st H) (REPR E res) C (some 54) vb_X12_readThing_31 31 L st H := Eq.trans rfl rfl
theorem xw_X12_readThing_54 {E : xE} {res : xR} {N : Nat} {hd : List Nat} {C : xCT} {k : Nat} {L : List Int} {st : List pv} {H : PH} : xW E res N kd_X12_readThing xm_X12_readThing hd C (k + 1) 54 L st H = xB (fun t L st H => if t ∈ hd then xJ E res N kd_X12_readThing t L st H else xW E res N kd_X12_readThing xm_X12_readThing hd C k t L st H) (REPR E res) C (some 64) vb_X12_readThing_54 54 L st H := Eq.trans rfl rfl
theorem xw_X12_readThing_64 {E : xE} {res : xR} {N : Nat} {hd : List Nat} {C : xCT} {k : Nat} {L : List Int} {st : List pv} {H : PH} : xW E res N kd_X12_readThing xm_X12_readThing hd C (k + 1) 64 L st H = xB (fun t L st H => if t ∈ hd then xJ E res N kd_X12_readThing t L st H else xW E res N kd_X12_readThing xm_X12_readThing hd C k t L st H) (REPR E res) C (some 91) vb_X12_readThing_64 64 L st H := Eq.trans rfl rfl
theorem xw_X12_readThing_91 {E : xE} {res : xR} {N : Nat} {hd : List Nat} {C : xCT} {k : Nat} {L : List Int} {st : List pv} {H : PH} : xW E res N kd_X12_readThing xm_X12_readThing hd C (k + 1) 91 L st H = xB (fun t L st H => if t ∈ hd then xJ E res N kd_X12_readThing t L st H else xW E res N kd_X12_readThing xm_X12_readThing hd C k t L st H) (REPR E res) C (some 101) vb_X12_readThing_91 91 L st H := Eq.trans rfl rfl
theorem xw_X12_readThing_101 {E : xE} {res : xR} {N : Nat} {hd : List Nat} {C : xCT} {k : Nat} {L : List Int} {st : List pv} {H : PH} : xW E res N kd_X12_readThing xm_X12_readThing hd C (k + 1) 101 L st H = xB (fun t L st H => if t ∈ hd then xJ E res N kd_X12_readThing t L st H else xW E res N kd_X12_readThing xm_X12_readThing hd C k t L st H) (REPR E res) C (some 131) vb_X12_readThing_101 101 L st H := Eq.trans rfl rfl
theorem xw_X12_readThing_131 {E : xE} {res : xR} {N : Nat} {hd : List Nat} {C : xCT} {k : Nat} {L : List Int} {st : List pv} {H : PH} : xW E res N kd_X12_readThing xm_X12_readThing hd C (k + 1) 131 L st H = xB (fun t L st H => if t ∈ hd then xJ E res N kd_X12_readThing t L st H else xW E res N kd_X12_readThing xm_X12_readThing hd C k t L st H) (REPR E res) C (none) vb_X12_readThing_131 131 L st H := Eq.trans rfl rfl
def xm_X12_readLaw : List xbT := [(0, vb_X12_readLaw_0, some 50), (50, vb_X12_readLaw_50, some 51), (51, vb_X12_readLaw_51, some 52), (52, vb_X12_readLaw_52, some 68), (68, vb_X12_readLaw_68, some 79), (79, vb_X12_readLaw_79, some 83), (83, vb_X12_readLaw_83, some 84), (84, vb_X12_readLaw_84, some 88), (88, vb_X12_readLaw_88, some 100), (100, vb_X12_readLaw_100, some 101), (101, vb_X12_readLaw_101, none)]
theorem xc_X12_readLaw : xOK kd_X12_readLaw xm_X12_readLaw := ⟨ve_X12_readLaw_0, ve_X12_readLaw_50, ve_X12_readLaw_51, ve_X12_readLaw_52, ve_X12_readLaw_68, ve_X12_readLaw_79, ve_X12_readLaw_83, ve_X12_readLaw_84, ve_X12_readLaw_88, ve_X12_readLaw_100, ve_X12_readLaw_101, trivial⟩
theorem xa_X12_readLaw : xm_X12_readLaw.all (fun q => aOKb q.2.1 && !q.2.1.isEmpty) = true := by decide +kernel
theorem xw_X12_readLaw_0 {E : xE} {res : xR} {N : Nat} {hd : List Nat} {C : xCT} {k : Nat} {L : List Int} {st : List pv} {H : PH} : xW E res N kd_X12_readLaw xm_X12_readLaw hd C (k + 1) 0 L st H = xB (fun t L st H => if t ∈ hd then xJ E res N kd_X12_readLaw t L st H else xW E res N kd_X12_readLaw xm_X12_readLaw hd C k t L st H) (REPR E res) C (some 50) vb_X12_readLaw_0 0 L st H := Eq.trans rfl rfl
theorem xw_X12_readLaw_50 {E : xE} {res : xR} {N : Nat} {hd : List Nat} {C : xCT} {k : Nat} {L : List Int} {st : List pv} {H : PH} : xW E res N kd_X12_readLaw xm_X12_readLaw hd C (k + 1) 50 L st H = xB (fun t L st H => if t ∈ hd then xJ E res N kd_X12_readLaw t L st H else xW E res N kd_X12_readLaw xm_X12_readLaw hd C k t L st H) (REPR E res) C (some 51) vb_X12_readLaw_50 50 L st H := Eq.trans rfl rfl
theorem xw_X12_readLaw_51 {E : xE} {res : xR} {N : Nat} {hd : List Nat} {C : xCT} {k : Nat} {L : List Int} {st : List pv} {H : PH} : xW E res N kd_X12_readLaw xm_X12_readLaw hd C (k + 1) 51 L st H = xB (fun t L st H => if t ∈ hd then xJ E res N kd_X12_readLaw t L st H else xW E res N kd_X12_readLaw xm_X12_readLaw hd C k t L st H) (REPR E res) C (some 52) vb_X12_readLaw_51 51 L st H := Eq.trans rfl rfl
theorem xw_X12_readLaw_52 {E : xE} {res : xR} {N : Nat} {hd : List Nat} {C : xCT} {k : Nat} {L : List Int} {st : List pv} {H : PH} : xW E res N kd_X12_readLaw xm_X12_readLaw hd C (k + 1) 52 L st H = xB (fun t L st H => if t ∈ hd then xJ E res N kd_X12_readLaw t L st H else xW E res N kd_X12_readLaw xm_X12_readLaw hd C k t L st H) (REPR E res) C (some 68) vb_X12_readLaw_52 52 L st H := Eq.trans rfl rfl
theorem xw_X12_readLaw_68 {E : xE} {res : xR} {N : Nat} {hd : List Nat} {C : xCT} {k : Nat} {L : List Int} {st : List pv} {H : PH} : xW E res N kd_X12_readLaw xm_X12_readLaw hd C (k + 1) 68 L st H = xB (fun t L st H => if t ∈ hd then xJ E res N kd_X12_readLaw t L st H else xW E res N kd_X12_readLaw xm_X12_readLaw hd C k t L st H) (REPR E res) C (some 79) vb_X12_readLaw_68 68 L st H := Eq.trans rfl rfl
theorem xw_X12_readLaw_79 {E : xE} {res : xR} {N : Nat} {hd : List Nat} {C : xCT} {k : Nat} {L : List Int} {st : List pv} {H : PH} : xW E res N kd_X12_readLaw xm_X12_readLaw hd C (k + 1) 79 L st H = xB (fun t L st H => if t ∈ hd then xJ E res N kd_X12_readLaw t L st H else xW E res N kd_X12_readLaw xm_X12_readLaw hd C k t L st H) (REPR E res) C (some 83) vb_X12_readLaw_79 79 L st H := Eq.trans rfl rfl
theorem xw_X12_readLaw_83 {E : xE} {res : xR} {N : Nat} {hd : List Nat} {C : xCT} {k : Nat} {L : List Int} {st : List pv} {H : PH} : xW E res N kd_X12_readLaw xm_X12_readLaw hd C (k + 1) 83 L st H = xB (fun t L st H => if t ∈ hd then xJ E res N kd_X12_readLaw t L st H else xW E res N kd_X12_readLaw xm_X12_readLaw hd C k t L st H) (REPR E res) C (some 84) vb_X12_readLaw_83 83 L st H := Eq.trans rfl rfl
theorem xw_X12_readLaw_84 {E : xE} {res : xR} {N : Nat} {hd : List Nat} {C : xCT} {k : Nat} {L : List Int} {st : List pv} {H : PH} : xW E res N kd_X12_readLaw xm_X12_readLaw hd C (k + 1) 84 L st H = xB (fun t L st H => if t ∈ hd then xJ E res N kd_X12_readLaw t L st H else xW E res N kd_X12_readLaw xm_X12_readLaw hd C k t L st H) (REPR E res) C (some 88) vb_X12_readLaw_84 84 L st H := Eq.trans rfl rfl
theorem xw_X12_readLaw_88 {E : xE} {res : xR} {N : Nat} {hd : List Nat} {C : xCT} {k : Nat} {L : List Int} {st : List pv} {H : PH} : xW E res N kd_X12_readLaw xm_X12_readLaw hd C (k + 1) 88 L st H = xB (fun t L st H => if t ∈ hd then xJ E res N kd_X12_readLaw t L st H else xW E res N kd_X12_readLaw xm_X12_readLaw hd C k t L st H) (REPR E res) C (some 100) vb_X12_readLaw_88 88 L st H := Eq.trans rfl rfl
theorem xw_X12_readLaw_100 {E : xE} {res : xR} {N : Nat} {hd : List Nat} {C : xCT} {k : Nat} {L : List Int} {st : List pv} {H : PH} : xW E res N kd_X12_readLaw xm_X12_readLaw hd C (k + 1) 100 L st H = xB (fun t L st H => if t ∈ hd then xJ E res N kd_X12_readLaw t L st H else xW E res N kd_X12_readLaw xm_X12_readLaw hd C k t L st H) (REPR E res) C (some 101) vb_X12_readLaw_100 100 L st H := Eq.trans rfl rfl
theorem xw_X12_readLaw_101 {E : xE} {res : xR} {N : Nat} {hd : List Nat} {C : xCT} {k : Nat} {L : List Int} {st : List pv} {H : PH} : xW E res N kd_X12_readLaw xm_X12_readLaw hd C (k + 1) 101 L st H = xB (fun t L st H => if t ∈ hd then xJ E res N kd_X12_readLaw t L st H else xW E res N kd_X12_readLaw xm_X12_readLaw hd C k t L st H) (REPR E res) C (none) vb_X12_readLaw_101 101 L st H := Eq.trans rfl rfl
def xm_X12_law : List xbT := [(0, vb_X12_law_0, some 16), (16, vb_X12_law_16, some 44), (44, vb_X12_law_44, some 73), (73, vb_X12_law_73, none)]
theorem xc_X12_law : xOK kd_X12_law xm_X12_law := ⟨ve_X12_law_0, ve_X12_law_16, ve_X12_law_44, ve_X12_law_73, trivial⟩
theorem xa_X12_law : xm_X12_law.all (fun q => aOKb q.2.1 && !q.2.1.isEmpty) = true := by decide +kernel
theorem xw_X12_law_0 {E : xE} {res : xR} {N : Nat} {hd : List Nat} {C : xCT} {k : Nat} {L : List Int} {st : List pv} {H : PH} : xW E res N kd_X12_law xm_X12_law hd C (k + 1) 0 L st H = xB (fun t L st H => if t ∈ hd then xJ E res N kd_X12_law t L st H else xW E res N kd_X12_law xm_X12_law hd C k t L st H) (REPR E res) C (some 16) vb_X12_law_0 0 L st H := Eq.trans rfl rfl
theorem xw_X12_law_16 {E : xE} {res : xR} {N : Nat} {hd : List Nat} {C : xCT} {k : Nat} {L : List Int} {st : List pv} {H : PH} : xW E res N kd_X12_law xm_X12_law hd C (k + 1) 16 L st H = xB (fun t L st H => if t ∈ hd then xJ E res N kd_X12_law t L st H else xW E res N kd_X12_law xm_X12_law hd C k t L st H) (REPR E res) C (some 44) vb_X12_law_16 16 L st H := Eq.trans rfl rfl
theorem xw_X12_law_44 {E : xE} {res : xR} {N : Nat} {hd : List Nat} {C : xCT} {k : Nat} {L : List Int} {st : List pv} {H : PH} : xW E res N kd_X12_law xm_X12_law hd C (k + 1) 44 L st H = xB (fun t L st H => if t ∈ hd then xJ E res N kd_X12_law t L st H else xW E res N kd_X12_law xm_X12_law hd C k t L st H) (REPR E res) C (some 73) vb_X12_law_44 44 L st H := Eq.trans rfl rfl
theorem xw_X12_law_73 {E : xE} {res : xR} {N : Nat} {hd : List Nat} {C : xCT} {k : Nat} {L : List Int} {st : List pv} {H : PH} : xW E res N kd_X12_law xm_X12_law hd C (k + 1) 73 L st H = xB (fun t L st H => if t ∈ hd then xJ E res N kd_X12_law t L st H else xW E res N kd_X12_law xm_X12_law hd C k t L st H) (REPR E res) C (none) vb_X12_law_73 73 L st H := Eq.trans rfl rfl
/-! ===== the model's law ===== -/
/-- signs that wait -/
def bz (x : Int) : Int := if x = 0 then 0 else 1
def pnF (su pr : Int → Int) : Nat → Int
  | 0 => bz (su 0) + bz (pr 0)
  | o + 1 => pnF su pr o + bz (su ((o + 1 : Nat) : Int)) + bz (pr ((o + 1 : Nat) : Int))
theorem bz_in (x : Int) : 0 ≤ bz x ∧ bz x ≤ 1 := by
  unfold bz
  split <;> omega
theorem pnF_in (su pr : Int → Int) : ∀ o : Nat, 0 ≤ pnF su pr o
  | 0 => by
    have := bz_in (su 0)
    have := bz_in (pr 0)
    unfold pnF
    omega
  | o + 1 => by
    have := pnF_in su pr o
    have := bz_in (su ((o + 1 : Nat) : Int))
    have := bz_in (pr ((o + 1 : Nat) : Int))
    unfold pnF
    omega
theorem pnF_cg {su pr su' pr' : Int → Int} : ∀ o : Nat, (∀ j : Int, 0 ≤ j → j ≤ o → su' j = su j ∧ pr' j = pr j) → pnF su' pr' o = pnF su pr o
  | 0, h => by
    have := h 0 (Int.le_refl _) (Int.le_refl _)
    unfold pnF
    rw [this.1, this.2]
  | o + 1, h => by
    have := h ((o + 1 : Nat) : Int) (by omega) (Int.le_refl _)
    unfold pnF
    rw [this.1, this.2, pnF_cg o (fun j j0 j1 => h j j0 (by omega))]
theorem pnF_pr {su pr : Int → Int} {v : Int} : ∀ o : Nat, pnF su (xup pr o v) o = pnF su pr o - bz (pr o) + bz v
  | 0 => by
    unfold pnF
    rw [show ((0 : Nat) : Int) = 0 from rfl, xup_a]
    omega
  | o + 1 => by
    unfold pnF
    rw [xup_a, pnF_cg o (su := su) (pr := pr) (fun j j0 j1 => ⟨rfl, xup_n (by omega)⟩)]
    omega
theorem pnF_su {su pr : Int → Int} {v : Int} : ∀ o : Nat, pnF (xup su o v) pr o = pnF su pr o - bz (su o) + bz v
  | 0 => by
    unfold pnF
    rw [show ((0 : Nat) : Int) = 0 from rfl, xup_a]
    omega
  | o + 1 => by
    unfold pnF
    rw [xup_a, pnF_cg o (su := su) (pr := pr) (fun j j0 j1 => ⟨xup_n (by omega), rfl⟩)]
    omega
/-- what the model's cells hold while it reads a law -/
def LKm (sz : Int) (T : Int → Int) (o : Nat) (s : LwS) (H : PH) : Prop := TMt sz T s.1 H ∧ H 590 10 = s.2.2.length ∧ H 590 11 = s.2.1 ∧ (∀ k : Nat, k < s.2.2.length → H 595 k = s.2.2.getD k 0) ∧ H 590 14 = o ∧ H 590 6 = -1
def MFl (H H' : PH) : Prop := (∀ c, ¬ c = 590 → ¬ c = 595 → ¬ c = 596 → ¬ c = 597 → H' c = H c) ∧ ∀ i, ¬ (5 ≤ i ∧ i ≤ 7) → ¬ (10 ≤ i ∧ i ≤ 11) → ¬ i = 14 → H' 590 i = H 590 i
theorem MFl_refl {H : PH} : MFl H H := ⟨fun _ _ _ _ _ => rfl, fun _ _ _ _ => rfl⟩
theorem MFl_trans {H H1 H2 : PH} (a : MFl H H1) (b : MFl H1 H2) : MFl H H2 := ⟨fun c h1 h2 h3 h4 => (b.1 c h1 h2 h3 h4).trans (a.1 c h1 h2 h3 h4), fun i h1 h2 h3 => (b.2 i h1 h2 h3).trans (a.2 i h1 h2 h3)⟩
theorem MFl_up {H : PH} {c i v : Int} (h : (c = 590 ∧ ((5 ≤ i ∧ i ≤ 7) ∨ (10 ≤ i ∧ i ≤ 11) ∨ i = 14)) ∨ c = 595 ∨ c = 596 ∨ c = 597) : MFl H (pup H c i v) := ⟨fun d h1 h2 h3 h4 => xp_ne (by omega), fun j h1 h2 h3 => by
  by_cases e : c = 590
  · subst e
    rw [xp_at, if_neg (by omega)]
  · rw [xp_ne (fun w => e w.symm)]⟩
/-- the end of a law: it is read, or it can't stand -/
def FIN (R : Option (Int × List Int)) (H : PH) : Prop := (∃ q, R = some q ∧ H 590 10 = q.2.length ∧ H 590 11 = q.1 ∧ (∀ k : Nat, k < q.2.length → H 595 k = q.2.getD k 0) ∧ H 590 6 = -1) ∨ (R = none ∧ ¬ H 590 6 = -1)
def SGB (o : Nat) (su pr : Int → Int) : Prop := ∀ j : Int, 0 ≤ j → j ≤ o → (0 ≤ su j ∧ su j ≤ 62) ∧ (0 ≤ pr j ∧ pr j ≤ 62)
theorem SGB_su {o : Nat} {su pr : Int → Int} {p v : Int} (h : SGB o su pr) (hv : 0 ≤ v ∧ v ≤ 62) : SGB o (xup su p v) pr := fun j j0 j1 => by
  have := h j j0 j1
  refine ⟨?_, this.2⟩
  unfold xup
  split
  · exact hv
  · exact this.1
theorem SGB_pr {o : Nat} {su pr : Int → Int} {p v : Int} (h : SGB o su pr) (hv : 0 ≤ v ∧ v ≤ 62) : SGB o su (xup pr p v) := fun j j0 j1 => by
  have := h j j0 j1
  refine ⟨this.1, ?_⟩
  unfold xup
  split
  · exact hv
  · exact this.2
/-- a thing is expected -/
def EST (sz : Int) (T : Int → Int) (R : Option (Int × List Int)) (o : Nat) (s : LwS) (H : PH) : Prop := LKm sz T o s H ∧ LGd sz s ∧ (s.2.2.length : Int) + pnF (H 596) (H 597) o ≤ 2 * s.2.1 ∧ o ≤ 8 ∧ SGB o (H 596) (H 597) ∧ kE T sz (H 596) (H 597) o s = R
/-- behind a thing -/
def AST (sz : Int) (T : Int → Int) (R : Option (Int × List Int)) (o : Nat) (s : LwS) (H : PH) : Prop := LKm sz T o s H ∧ LGd sz s ∧ (s.2.2.length : Int) + pnF (H 596) (H 597) o + 1 ≤ 2 * s.2.1 ∧ 1 ≤ s.2.1 ∧ o ≤ 8 ∧ SGB o (H 596) (H 597) ∧ kA T sz (H 596) (H 597) o s = R
theorem LKm_row {sz : Int} {T : Int → Int} {o : Nat} {s : LwS} {H : PH} {c i v : Int} (hc : c = 596 ∨ c = 597) (h : LKm sz T o s H) : LKm sz T o s (pup H c i v) := by
  obtain ⟨h1, h2, h3, h4, h5, h6⟩ := h
  have e : ∀ d, ¬ d = 596 → ¬ d = 597 → pup H c i v d = H d := fun d d1 d2 => xp_ne (by omega)
  refine ⟨?_, by rw [e 590 (by decide) (by decide)]; exact h2, by rw [e 590 (by decide) (by decide)]; exact h3, fun k hk => by rw [e 595 (by decide) (by decide)]; exact h4 k hk, by rw [e 590 (by decide) (by decide)]; exact h5, by rw [e 590 (by decide) (by decide)]; exact h6⟩
  exact TMt_eq h1 (by rw [e 590 (by decide) (by decide)]) (e 593 (by decide) (by decide)) (by rw [e 590 (by decide) (by decide)]; exact h1.2.2.1) ⟨h1.2.2.2.1, h1.2.2.2.2.1⟩
theorem LKm_does {sz : Int} {T : Int → Int} {o : Nat} {s : LwS} {H : PH} {v : Int} (h : LKm sz T o s H) : LKm sz T o (pst s v) (pup (pup H 595 (H 590 10) v) 590 10 (H 590 10 + 1)) := by
  obtain ⟨h1, h2, h3, h4, h5, h6⟩ := h
  refine ⟨TMt_eq h1 (by rw [xp_at, if_neg (by decide), xp_ne (by decide)]) (by rw [xp_ne (by decide), xp_ne (by decide)]) (by rw [xp_at, if_neg (by decide), xp_ne (by decide)]; exact h1.2.2.1) ⟨h1.2.2.2.1, h1.2.2.2.2.1⟩, ?_, by rw [xp_at, if_neg (by decide), xp_ne (by decide)]; exact h3, fun k hk => ?_, by rw [xp_at, if_neg (by decide), xp_ne (by decide)]; exact h5, by rw [xp_at, if_neg (by decide), xp_ne (by decide)]; exact h6⟩
  · rw [xp_at, if_pos rfl, h2, pst_len]
  · rw [xp_ne (by decide), xp_at, h2]
    show _ = (s.2.2 ++ [v]).getD k 0
    have hk : (k : Int) < s.2.2.length + 1 := by
      have := pst_len (s := s) (v := v)
      omega
    rw [getD_app]
    by_cases e : (k : Int) = s.2.2.length
    · rw [if_pos e, if_neg (by omega), if_pos (by omega)]
    · rw [if_neg e, if_pos (by omega)]
      exact h4 k (by omega)
theorem LKm_at {sz : Int} {T : Int → Int} {o : Nat} {s : LwS} {H : PH} (h : LKm sz T o s H) (hz : s.1 < sz) : LKm sz T o (s.1 + 1, s.2) (pup H 590 5 (s.1 + 1)) := by
  obtain ⟨h1, h2, h3, h4, h5, h6⟩ := h
  exact ⟨TMt_up h1 hz, by rw [xp_at, if_neg (by decide)]; exact h2, by rw [xp_at, if_neg (by decide)]; exact h3, fun k hk => by rw [xp_ne (by decide)]; exact h4 k hk, by rw [xp_at, if_neg (by decide)]; exact h5, by rw [xp_at, if_neg (by decide)]; exact h6⟩
set_option maxRecDepth 100000 in
theorem sp_X12_does (v : Int) (H : PH) : SPEC 183 [(2, 590), (0, v)] H (fun r H' => r = none ∧ H' = pup (pup H 595 (H 590 10) v) 590 10 (zw (H 590 10 + 1))) := by
  intro E n res h
  have h := call_runP 2 vm_X12_does h
  have h := xw_top (hd := []) 3 xD6_ok xc_X12_does xa_X12_does (t := 0) rfl h
  simp (maxDischargeDepth := 12) -implicitDefEqProofs [vb_X12_does_0, xI_0, xI_1, xI_7, xI_14, xI_33, xI_49, xI_50, xI_52, xI_65, xw_X12_does_0, zw_lit, xB_c, xB_s, xB_n, i1_c, j2_c, k1_c, jJ_e, xlg, xls, xla, xpd, ppush, zw_m1, zw_m2, zw_m3, gf_12_9, gf_12_10, pf_12_10, tg_12_10, tg_12_9, gv_590_9, gv_590_10, xD1, xD2, xD3, xD4, xD5, xD6, xb1_0, xp_ne] at h
  exact ⟨_, _, h, rfl, rfl⟩
/-- what goes on behind a thing -/
def GRs (sz : Int) (T : Int → Int) (R : Option (Int × List Int)) (o0 : Nat) (H0 : PH) (r : Option pv) (H' : PH) : Prop := MFl H0 H' ∧ ((r = some (0, 1) ∧ ∃ (o' : Nat) (s' : LwS), EST sz T R o' s' H') ∨ (r = some (0, 0) ∧ FIN R H'))
theorem GRs_tr {sz : Int} {T : Int → Int} {R : Option (Int × List Int)} {o0 : Nat} {H0 H1 H' : PH} {r : Option pv} (a : MFl H0 H1) (h : GRs sz T R o0 H1 r H') : GRs sz T R o0 H0 r H' := ⟨MFl_trans a h.1, h.2⟩
set_option maxRecDepth 100000 in
theorem sg_134 (sz : Int) (T : Int → Int) (R : Option (Int × List Int)) {E : xE} {res : xR} {n : Nat} (ih : ∀ m, m < n → ∀ (o : Nat) (x : Int) (s : LwS) (H : PH), AST sz T R o s H → RUN E res m kd_X12_goesOn (zget kd_X12_goesOn 0) 0 [590, x] [] H → ∃ r H', REPR E res r H' ∧ GRs sz T R o H r H') (o : Nat) (s : LwS) (H : PH) (hA : AST sz T R o s H) (hp : H 597 o = 0) (hs : H 596 o = 0) (hP : ¬ isP (nxF sz T s.1)) (hS : ¬ isS (nxF sz T s.1)) (p : Int) (ep : p = o) (h : xJ E res n kd_X12_goesOn 134 [590, p] [] H) : ∃ r H', REPR E res r H' ∧ GRs sz T R o H r H' := by
  obtain ⟨m, hm, h⟩ := h
  obtain ⟨⟨t, h10, h11, h595, h14, h6⟩, hg, hl, ht, h8, hb, hk⟩ := hA
  have s0 := hg.1
  have eb : nxb T sz s.1 = nxF sz T s.1 := nxb_nx s0
  have en := TMt_he t
  have e5 := t.2.2.1
  have e4 := t.1
  rw [kA_stop o s hp hs (by rw [eb]; exact hP) (by rw [eb]; exact hS)] at hk
  cases o with
  | zero =>
    have p0 : p = 0 := ep
    have hk : (if s.1 < sz then none else some s.2) = R := hk
    by_cases c : s.1 < sz
    · have c' : ¬ sz ≤ s.1 := by omega
      rw [if_pos c] at hk
      have h := xw_top (hd := [0, 28, 64, 87, 134]) 12 xD6_ok xc_X12_goesOn xa_X12_goesOn (t := 134) rfl h
      simp (maxDischargeDepth := 12) -implicitDefEqProofs [vb_X12_goesOn_0, vb_X12_goesOn_28, vb_X12_goesOn_64, vb_X12_goesOn_87, vb_X12_goesOn_112, vb_X12_goesOn_134, vb_X12_goesOn_164, vb_X12_goesOn_165, vb_X12_goesOn_166, vb_X12_goesOn_184, xI_0, xI_1, xI_3, xI_7, xI_8, xI_9, xI_14, xI_15, xI_33, xI_36, xI_37, xI_38, xI_43, xI_44, xI_46, xI_49, xI_50, xI_51, xI_52, xI_61, xI_62, xw_X12_goesOn_0, xw_X12_goesOn_28, xw_X12_goesOn_64, xw_X12_goesOn_87, xw_X12_goesOn_112, xw_X12_goesOn_134, xw_X12_goesOn_164, xw_X12_goesOn_165, xw_X12_goesOn_166, xw_X12_goesOn_184, zw_lit, xB_c, xB_s, xB_n, i1_c, j2_c, k1_c, jJ_e, xlg, xls, xla, xpd, ppush, zw_m1, zw_m2, zw_m3, gf_12_4, gf_12_5, gf_12_12, gf_12_13, gf_12_14, pf_12_5, pf_12_14, tg_12_12, tg_12_13, tg_12_14, tg_12_4, tg_12_5, gv_590_4, gv_590_5, gv_590_12, gv_590_13, gv_590_14, xD1, xD2, xD3, xD4, xD5, xD6, xb1_0, e5, e4, c, c', p0] at h
      obtain ⟨r, H1, ⟨rfl, rfl⟩, g⟩ := xc_use h (sp_X12_fails s.1 H)
      simp (maxDischargeDepth := 12) -implicitDefEqProofs [vb_X12_goesOn_0, vb_X12_goesOn_28, vb_X12_goesOn_64, vb_X12_goesOn_87, vb_X12_goesOn_112, vb_X12_goesOn_134, vb_X12_goesOn_164, vb_X12_goesOn_165, vb_X12_goesOn_166, vb_X12_goesOn_184, xI_0, xI_1, xI_3, xI_7, xI_8, xI_9, xI_14, xI_15, xI_33, xI_36, xI_37, xI_38, xI_43, xI_44, xI_46, xI_49, xI_50, xI_51, xI_52, xI_61, xI_62, xw_X12_goesOn_0, xw_X12_goesOn_28, xw_X12_goesOn_64, xw_X12_goesOn_87, xw_X12_goesOn_112, xw_X12_goesOn_134, xw_X12_goesOn_164, xw_X12_goesOn_165, xw_X12_goesOn_166, xw_X12_goesOn_184, zw_lit, xB_c, xB_s, xB_n, i1_c, j2_c, k1_c, jJ_e, xlg, xls, xla, xpd, ppush, zw_m1, zw_m2, zw_m3, gf_12_4, gf_12_5, gf_12_12, gf_12_13, gf_12_14, pf_12_5, pf_12_14, tg_12_12, tg_12_13, tg_12_14, tg_12_4, tg_12_5, gv_590_4, gv_590_5, gv_590_12, gv_590_13, gv_590_14, xD1, xD2, xD3, xD4, xD5, xD6, xb1_0] at g
      exact ⟨_, _, g, MFl_up (by decide), Or.inr ⟨rfl, Or.inr ⟨hk.symm, by rw [xp_at, if_pos rfl]; omega⟩⟩⟩
    · have c' : sz ≤ s.1 := by omega
      rw [if_neg c] at hk
      have h := xw_top (hd := [0, 28, 64, 87, 134]) 12 xD6_ok xc_X12_goesOn xa_X12_goesOn (t := 134) rfl h
      simp (maxDischargeDepth := 12) -implicitDefEqProofs [vb_X12_goesOn_0, vb_X12_goesOn_28, vb_X12_goesOn_64, vb_X12_goesOn_87, vb_X12_goesOn_112, vb_X12_goesOn_134, vb_X12_goesOn_164, vb_X12_goesOn_165, vb_X12_goesOn_166, vb_X12_goesOn_184, xI_0, xI_1, xI_3, xI_7, xI_8, xI_9, xI_14, xI_15, xI_33, xI_36, xI_37, xI_38, xI_43, xI_44, xI_46, xI_49, xI_50, xI_51, xI_52, xI_61, xI_62, xw_X12_goesOn_0, xw_X12_goesOn_28, xw_X12_goesOn_64, xw_X12_goesOn_87, xw_X12_goesOn_112, xw_X12_goesOn_134, xw_X12_goesOn_164, xw_X12_goesOn_165, xw_X12_goesOn_166, xw_X12_goesOn_184, zw_lit, xB_c, xB_s, xB_n, i1_c, j2_c, k1_c, jJ_e, xlg, xls, xla, xpd, ppush, zw_m1, zw_m2, zw_m3, gf_12_4, gf_12_5, gf_12_12, gf_12_13, gf_12_14, pf_12_5, pf_12_14, tg_12_12, tg_12_13, tg_12_14, tg_12_4, tg_12_5, gv_590_4, gv_590_5, gv_590_12, gv_590_13, gv_590_14, xD1, xD2, xD3, xD4, xD5, xD6, xb1_0, e5, e4, c, c', p0] at h
      exact ⟨_, _, h, MFl_refl, Or.inr ⟨rfl, Or.inl ⟨s.2, hk.symm, h10, h11, h595, h6⟩⟩⟩
  | succ o =>
    have o1 : ¬ p = 0 := by omega
    have h14p : H 590 14 = p := by rw [h14, ep]
    have hk : (if nxb T sz s.1 = 41 then kA T sz (H 596) (H 597) o (s.1 + 1, s.2) else none) = R := hk
    rw [eb] at hk
    by_cases c : nxF sz T s.1 = 41
    · rw [if_pos c] at hk
      have hz := nxb_lt (T := T) (z := sz) (a := s.1) (by omega)
      have sz6 := t.2.2.2.2.2
      have z1 : zw (s.1 + 1) = s.1 + 1 := zw_lit (by omega) (by omega)
      have z2 : zw (p - 1) = o := by rw [show p - 1 = o by omega]; exact zw_lit (by omega) (by omega)
      have h := xw_top (hd := [0, 28, 64, 87, 134]) 12 xD6_ok xc_X12_goesOn xa_X12_goesOn (t := 134) rfl h
      simp (maxDischargeDepth := 12) -implicitDefEqProofs [vb_X12_goesOn_0, vb_X12_goesOn_28, vb_X12_goesOn_64, vb_X12_goesOn_87, vb_X12_goesOn_112, vb_X12_goesOn_134, vb_X12_goesOn_164, vb_X12_goesOn_165, vb_X12_goesOn_166, vb_X12_goesOn_184, xI_0, xI_1, xI_3, xI_7, xI_8, xI_9, xI_14, xI_15, xI_33, xI_36, xI_37, xI_38, xI_43, xI_44, xI_46, xI_49, xI_50, xI_51, xI_52, xI_61, xI_62, xw_X12_goesOn_0, xw_X12_goesOn_28, xw_X12_goesOn_64, xw_X12_goesOn_87, xw_X12_goesOn_112, xw_X12_goesOn_134, xw_X12_goesOn_164, xw_X12_goesOn_165, xw_X12_goesOn_166, xw_X12_goesOn_184, zw_lit, xB_c, xB_s, xB_n, i1_c, j2_c, k1_c, jJ_e, xlg, xls, xla, xpd, ppush, zw_m1, zw_m2, zw_m3, gf_12_4, gf_12_5, gf_12_12, gf_12_13, gf_12_14, pf_12_5, pf_12_14, tg_12_12, tg_12_13, tg_12_14, tg_12_4, tg_12_5, gv_590_4, gv_590_5, gv_590_12, gv_590_13, gv_590_14, xD1, xD2, xD3, xD4, xD5, xD6, xb1_0, o1, en, c, e5, z1, xp_at, h14p, z2] at h
      obtain ⟨m2, hm2, h⟩ := h
      have pn0 : pnF (H 596) (H 597) (o + 1) = pnF (H 596) (H 597) o := by
        show pnF (H 596) (H 597) o + bz (H 596 ((o + 1 : Nat) : Int)) + bz (H 597 ((o + 1 : Nat) : Int)) = _
        rw [hp, hs]
        show pnF (H 596) (H 597) o + 0 + 0 = _
        omega
      obtain ⟨r, H', k1, k2⟩ := ih m2 (by omega) o _ (s.1 + 1, s.2) _ ⟨⟨TMt_eq t (by rw [xp_at, if_neg (by decide), xp_at, if_neg (by decide)]) (by rw [xp_ne (by decide), xp_ne (by decide)]) (by rw [xp_at, if_neg (by decide), xp_at, if_pos rfl]) ⟨by omega, by omega⟩, by rw [xp_at, if_neg (by decide), xp_at, if_neg (by decide)]; exact h10, by rw [xp_at, if_neg (by decide), xp_at, if_neg (by decide)]; exact h11, fun k hk => by rw [xp_ne (by decide), xp_ne (by decide)]; exact h595 k hk, by rw [xp_at, if_pos rfl], by rw [xp_at, if_neg (by decide), xp_at, if_neg (by decide)]; exact h6⟩, ⟨by show 0 ≤ s.1 + 1; omega, by show s.1 + 1 ≤ sz; omega, hg.2.2⟩, by rw [xp_ne (by decide), xp_ne (by decide), xp_ne (by decide), xp_ne (by decide)]; show (s.2.2.length : Int) + pnF (H 596) (H 597) o + 1 ≤ 2 * s.2.1; omega, ht, by omega, by rw [xp_ne (by decide), xp_ne (by decide), xp_ne (by decide), xp_ne (by decide)]; exact fun j j0 j1 => hb j j0 (by omega), by rw [xp_ne (by decide), xp_ne (by decide), xp_ne (by decide), xp_ne (by decide)]; exact hk⟩ h
      exact ⟨r, H', k1, MFl_trans (MFl_trans (MFl_up (by decide)) (MFl_up (by decide))) k2.1, k2.2⟩
    · rw [if_neg c] at hk
      have h := xw_top (hd := [0, 28, 64, 87, 134]) 12 xD6_ok xc_X12_goesOn xa_X12_goesOn (t := 134) rfl h
      simp (maxDischargeDepth := 12) -implicitDefEqProofs [vb_X12_goesOn_0, vb_X12_goesOn_28, vb_X12_goesOn_64, vb_X12_goesOn_87, vb_X12_goesOn_112, vb_X12_goesOn_134, vb_X12_goesOn_164, vb_X12_goesOn_165, vb_X12_goesOn_166, vb_X12_goesOn_184, xI_0, xI_1, xI_3, xI_7, xI_8, xI_9, xI_14, xI_15, xI_33, xI_36, xI_37, xI_38, xI_43, xI_44, xI_46, xI_49, xI_50, xI_51, xI_52, xI_61, xI_62, xw_X12_goesOn_0, xw_X12_goesOn_28, xw_X12_goesOn_64, xw_X12_goesOn_87, xw_X12_goesOn_112, xw_X12_goesOn_134, xw_X12_goesOn_164, xw_X12_goesOn_165, xw_X12_goesOn_166, xw_X12_goesOn_184, zw_lit, xB_c, xB_s, xB_n, i1_c, j2_c, k1_c, jJ_e, xlg, xls, xla, xpd, ppush, zw_m1, zw_m2, zw_m3, gf_12_4, gf_12_5, gf_12_12, gf_12_13, gf_12_14, pf_12_5, pf_12_14, tg_12_12, tg_12_13, tg_12_14, tg_12_4, tg_12_5, gv_590_4, gv_590_5, gv_590_12, gv_590_13, gv_590_14, xD1, xD2, xD3, xD4, xD5, xD6, xb1_0, o1, en, c, e5] at h
      obtain ⟨r, H1, ⟨rfl, rfl⟩, g⟩ := xc_use h (sp_X12_fails s.1 H)
      simp (maxDischargeDepth := 12) -implicitDefEqProofs [vb_X12_goesOn_0, vb_X12_goesOn_28, vb_X12_goesOn_64, vb_X12_goesOn_87, vb_X12_goesOn_112, vb_X12_goesOn_134, vb_X12_goesOn_164, vb_X12_goesOn_165, vb_X12_goesOn_166, vb_X12_goesOn_184, xI_0, xI_1, xI_3, xI_7, xI_8, xI_9, xI_14, xI_15, xI_33, xI_36, xI_37, xI_38, xI_43, xI_44, xI_46, xI_49, xI_50, xI_51, xI_52, xI_61, xI_62, xw_X12_goesOn_0, xw_X12_goesOn_28, xw_X12_goesOn_64, xw_X12_goesOn_87, xw_X12_goesOn_112, xw_X12_goesOn_134, xw_X12_goesOn_164, xw_X12_goesOn_165, xw_X12_goesOn_166, xw_X12_goesOn_184, zw_lit, xB_c, xB_s, xB_n, i1_c, j2_c, k1_c, jJ_e, xlg, xls, xla, xpd, ppush, zw_m1, zw_m2, zw_m3, gf_12_4, gf_12_5, gf_12_12, gf_12_13, gf_12_14, pf_12_5, pf_12_14, tg_12_12, tg_12_13, tg_12_14, tg_12_4, tg_12_5, gv_590_4, gv_590_5, gv_590_12, gv_590_13, gv_590_14, xD1, xD2, xD3, xD4, xD5, xD6, xb1_0] at g
      exact ⟨_, _, g, MFl_up (by decide), Or.inr ⟨rfl, Or.inr ⟨hk.symm, by rw [xp_at, if_pos rfl]; omega⟩⟩⟩
theorem pupC {H : PH} {c i v : Int} : pup H c i v c = xup (H c) i v := funext fun j => by rw [xp_at]; rfl
theorem bz_0 : bz 0 = 0 := rfl
set_option maxRecDepth 100000 in
theorem sg_87 (sz : Int) (T : Int → Int) (R : Option (Int × List Int)) {E : xE} {res : xR} {n : Nat} (ih : ∀ m, m < n → ∀ (o : Nat) (x : Int) (s : LwS) (H : PH), AST sz T R o s H → RUN E res m kd_X12_goesOn (zget kd_X12_goesOn 0) 0 [590, x] [] H → ∃ r H', REPR E res r H' ∧ GRs sz T R o H r H') (o : Nat) (s : LwS) (H : PH) (lk : LKm sz T o s H) (hg : LGd sz s) (hl : (s.2.2.length : Int) + pnF (xup (H 596) o 0) (H 597) o + 1 ≤ 2 * s.2.1) (ht : 1 ≤ s.2.1) (h8 : o ≤ 8) (hb : SGB o (H 596) (H 597)) (hk : kA T sz (xup (H 596) o 0) (H 597) o s = R) (hp : H 597 o = 0) (hP : ¬ isP (nxF sz T s.1)) (p : Int) (ep : p = o) (h : xJ E res n kd_X12_goesOn 87 [590, p] [] H) : ∃ r H', REPR E res r H' ∧ GRs sz T R o H r H' := by
  obtain ⟨m, hm, h⟩ := h
  have s0 := hg.1
  have eb : nxb T sz s.1 = nxF sz T s.1 := nxb_nx s0
  have lk1 : LKm sz T o s (pup H 596 p 0) := LKm_row (Or.inl rfl) lk
  have en : heV (pup H 596 p 0) = nxF sz T s.1 := TMt_he lk1.1
  have e5 : H 590 5 = s.1 := lk.1.2.2.1
  have pn := pnF_in (xup (H 596) o 0) (H 597) o
  have r1 : pup H 596 p 0 596 = xup (H 596) o 0 := by rw [pupC, ep]
  have r2 : pup H 596 p 0 597 = H 597 := xp_ne (by decide)
  by_cases c : isS (nxF sz T s.1)
  · have c0 := c
    unfold isS at c0
    have hz := nxb_lt (T := T) (z := sz) (a := s.1) (by omega)
    have sz6 := lk.1.2.2.2.2.2
    have z1 : zw (s.1 + 1) = s.1 + 1 := zw_lit (by omega) (by omega)
    have fin : ∀ v, v = nxF sz T s.1 → REPR E res (some (0, 1)) (pup (pup (pup H 596 p 0) 596 p v) 590 5 (s.1 + 1)) → ∃ r H', REPR E res r H' ∧ GRs sz T R o H r H' := by
      rintro v rfl g
      have r3 : pup (pup (pup H 596 p 0) 596 p (nxF sz T s.1)) 590 5 (s.1 + 1) 596 = xup (xup (H 596) o 0) o (nxF sz T s.1) := by rw [xp_ne (by decide), pupC, r1, ep]
      have r4 : pup (pup (pup H 596 p 0) 596 p (nxF sz T s.1)) 590 5 (s.1 + 1) 597 = H 597 := by rw [xp_ne (by decide), xp_ne (by decide), xp_ne (by decide)]
      refine ⟨_, _, g, MFl_trans (MFl_trans (MFl_up (by omega)) (MFl_up (by omega))) (MFl_up (by omega)), Or.inl ⟨rfl, o, (s.1 + 1, s.2), LKm_at (LKm_row (Or.inl rfl) lk1) hz, ⟨by show 0 ≤ s.1 + 1; omega, by show s.1 + 1 ≤ sz; omega, hg.2.2⟩, ?_, h8, by rw [r3, r4]; exact SGB_su (SGB_su hb (by decide)) (by omega), ?_⟩⟩
      · rw [r3, r4, pnF_su, xup_a, bz_0]
        have := bz_in (nxF sz T s.1)
        show (s.2.2.length : Int) + _ ≤ 2 * s.2.1
        omega
      · rw [r3, r4, ← kA_plus (su := xup (H 596) o 0) (su' := xup (xup (H 596) o 0) o (nxF sz T s.1)) o s hg (by omega) ht hp xup_a (by rw [eb]; exact c) (fun j j0 j1 => xup_n (by omega)) (by rw [xup_a, eb])]
        exact hk
    by_cases c1 : nxF sz T s.1 = 43
    · have h := xw_top (hd := [0, 28, 64, 87, 134]) 12 xD6_ok xc_X12_goesOn xa_X12_goesOn (t := 87) rfl h
      simp (maxDischargeDepth := 12) -implicitDefEqProofs [vb_X12_goesOn_0, vb_X12_goesOn_28, vb_X12_goesOn_64, vb_X12_goesOn_87, vb_X12_goesOn_112, vb_X12_goesOn_134, vb_X12_goesOn_164, vb_X12_goesOn_165, vb_X12_goesOn_166, vb_X12_goesOn_184, xI_0, xI_1, xI_3, xI_7, xI_8, xI_9, xI_14, xI_15, xI_33, xI_36, xI_37, xI_38, xI_43, xI_44, xI_46, xI_49, xI_50, xI_51, xI_52, xI_61, xI_62, xw_X12_goesOn_0, xw_X12_goesOn_28, xw_X12_goesOn_64, xw_X12_goesOn_87, xw_X12_goesOn_112, xw_X12_goesOn_134, xw_X12_goesOn_164, xw_X12_goesOn_165, xw_X12_goesOn_166, xw_X12_goesOn_184, zw_lit, xB_c, xB_s, xB_n, i1_c, j2_c, k1_c, jJ_e, xlg, xls, xla, xpd, ppush, zw_m1, zw_m2, zw_m3, gf_12_4, gf_12_5, gf_12_12, gf_12_13, gf_12_14, pf_12_5, pf_12_14, tg_12_12, tg_12_13, tg_12_14, tg_12_4, tg_12_5, gv_590_4, gv_590_5, gv_590_12, gv_590_13, gv_590_14, xD1, xD2, xD3, xD4, xD5, xD6, xb1_0, en, c1, xp_ne, e5, z1] at h
      exact fin 43 c1.symm h
    · have c2 : nxF sz T s.1 = 45 := by omega
      have h := xw_top (hd := [0, 28, 64, 87, 134]) 12 xD6_ok xc_X12_goesOn xa_X12_goesOn (t := 87) rfl h
      simp (maxDischargeDepth := 12) -implicitDefEqProofs [vb_X12_goesOn_0, vb_X12_goesOn_28, vb_X12_goesOn_64, vb_X12_goesOn_87, vb_X12_goesOn_112, vb_X12_goesOn_134, vb_X12_goesOn_164, vb_X12_goesOn_165, vb_X12_goesOn_166, vb_X12_goesOn_184, xI_0, xI_1, xI_3, xI_7, xI_8, xI_9, xI_14, xI_15, xI_33, xI_36, xI_37, xI_38, xI_43, xI_44, xI_46, xI_49, xI_50, xI_51, xI_52, xI_61, xI_62, xw_X12_goesOn_0, xw_X12_goesOn_28, xw_X12_goesOn_64, xw_X12_goesOn_87, xw_X12_goesOn_112, xw_X12_goesOn_134, xw_X12_goesOn_164, xw_X12_goesOn_165, xw_X12_goesOn_166, xw_X12_goesOn_184, zw_lit, xB_c, xB_s, xB_n, i1_c, j2_c, k1_c, jJ_e, xlg, xls, xla, xpd, ppush, zw_m1, zw_m2, zw_m3, gf_12_4, gf_12_5, gf_12_12, gf_12_13, gf_12_14, pf_12_5, pf_12_14, tg_12_12, tg_12_13, tg_12_14, tg_12_4, tg_12_5, gv_590_4, gv_590_5, gv_590_12, gv_590_13, gv_590_14, xD1, xD2, xD3, xD4, xD5, xD6, xb1_0, en, c2, xp_ne, e5, z1] at h
      exact fin 45 c2.symm h
  · have c0 := c
    unfold isS at c0
    have c1 : ¬ nxF sz T s.1 = 43 := fun w => c0 (Or.inl w)
    have c2 : ¬ nxF sz T s.1 = 45 := fun w => c0 (Or.inr w)
    have h := xw_top (hd := [0, 28, 64, 87, 134]) 12 xD6_ok xc_X12_goesOn xa_X12_goesOn (t := 87) rfl h
    simp (maxDischargeDepth := 12) -implicitDefEqProofs [vb_X12_goesOn_0, vb_X12_goesOn_28, vb_X12_goesOn_64, vb_X12_goesOn_87, vb_X12_goesOn_112, vb_X12_goesOn_134, vb_X12_goesOn_164, vb_X12_goesOn_165, vb_X12_goesOn_166, vb_X12_goesOn_184, xI_0, xI_1, xI_3, xI_7, xI_8, xI_9, xI_14, xI_15, xI_33, xI_36, xI_37, xI_38, xI_43, xI_44, xI_46, xI_49, xI_50, xI_51, xI_52, xI_61, xI_62, xw_X12_goesOn_0, xw_X12_goesOn_28, xw_X12_goesOn_64, xw_X12_goesOn_87, xw_X12_goesOn_112, xw_X12_goesOn_134, xw_X12_goesOn_164, xw_X12_goesOn_165, xw_X12_goesOn_166, xw_X12_goesOn_184, zw_lit, xB_c, xB_s, xB_n, i1_c, j2_c, k1_c, jJ_e, xlg, xls, xla, xpd, ppush, zw_m1, zw_m2, zw_m3, gf_12_4, gf_12_5, gf_12_12, gf_12_13, gf_12_14, pf_12_5, pf_12_14, tg_12_12, tg_12_13, tg_12_14, tg_12_4, tg_12_5, gv_590_4, gv_590_5, gv_590_12, gv_590_13, gv_590_14, xD1, xD2, xD3, xD4, xD5, xD6, xb1_0, en, c1, c2] at h
    obtain ⟨r, H', k1, k2⟩ := sg_134 sz T R (n := m) (fun m2 hm2 => ih m2 (by omega)) o s (pup H 596 p 0) ⟨lk1, hg, by rw [r1, r2]; exact hl, ht, h8, by rw [r1, r2]; exact SGB_su hb (by decide), by rw [r1, r2]; exact hk⟩ (by rw [r2]; exact hp) (by rw [r1]; exact xup_a) hP c p ep h
    exact ⟨r, H', k1, MFl_trans (MFl_up (by omega)) k2.1, k2.2⟩
set_option maxRecDepth 100000 in
theorem sg_28 (sz : Int) (T : Int → Int) (R : Option (Int × List Int)) {E : xE} {res : xR} {n : Nat} (ih : ∀ m, m < n → ∀ (o : Nat) (x : Int) (s : LwS) (H : PH), AST sz T R o s H → RUN E res m kd_X12_goesOn (zget kd_X12_goesOn 0) 0 [590, x] [] H → ∃ r H', REPR E res r H' ∧ GRs sz T R o H r H') (o : Nat) (s : LwS) (H : PH) (lk : LKm sz T o s H) (hg : LGd sz s) (hl : (s.2.2.length : Int) + pnF (H 596) (xup (H 597) o 0) o + 1 ≤ 2 * s.2.1) (ht : 1 ≤ s.2.1) (h8 : o ≤ 8) (hb : SGB o (H 596) (H 597)) (hk : kA T sz (H 596) (xup (H 597) o 0) o s = R) (p : Int) (ep : p = o) (h : xJ E res n kd_X12_goesOn 28 [590, p] [] H) : ∃ r H', REPR E res r H' ∧ GRs sz T R o H r H' := by
  obtain ⟨m, hm, h⟩ := h
  have s0 := hg.1
  have eb : nxb T sz s.1 = nxF sz T s.1 := nxb_nx s0
  have lk1 : LKm sz T o s (pup H 597 p 0) := LKm_row (Or.inr rfl) lk
  have en : heV (pup H 597 p 0) = nxF sz T s.1 := TMt_he lk1.1
  have e5 : H 590 5 = s.1 := lk.1.2.2.1
  have pn := pnF_in (H 596) (xup (H 597) o 0) o
  have r1 : pup H 597 p 0 597 = xup (H 597) o 0 := by rw [pupC, ep]
  have r2 : pup H 597 p 0 596 = H 596 := xp_ne (by decide)
  have mf0 : MFl H (pup H 597 p 0) := MFl_up (by omega)
  by_cases c : isP (nxF sz T s.1)
  · have c0 := c
    unfold isP at c0
    have hz := nxb_lt (T := T) (z := sz) (a := s.1) (by omega)
    have sz6 := lk.1.2.2.2.2.2
    have z1 : zw (s.1 + 1) = s.1 + 1 := zw_lit (by omega) (by omega)
    have h := xw_top (hd := [0, 28, 64, 87, 134]) 12 xD6_ok xc_X12_goesOn xa_X12_goesOn (t := 28) rfl h
    simp (maxDischargeDepth := 12) -implicitDefEqProofs [vb_X12_goesOn_0, vb_X12_goesOn_28, vb_X12_goesOn_64, vb_X12_goesOn_87, vb_X12_goesOn_112, vb_X12_goesOn_134, vb_X12_goesOn_164, vb_X12_goesOn_165, vb_X12_goesOn_166, vb_X12_goesOn_184, xI_0, xI_1, xI_3, xI_7, xI_8, xI_9, xI_14, xI_15, xI_33, xI_36, xI_37, xI_38, xI_43, xI_44, xI_46, xI_49, xI_50, xI_51, xI_52, xI_61, xI_62, xw_X12_goesOn_0, xw_X12_goesOn_28, xw_X12_goesOn_64, xw_X12_goesOn_87, xw_X12_goesOn_112, xw_X12_goesOn_134, xw_X12_goesOn_164, xw_X12_goesOn_165, xw_X12_goesOn_166, xw_X12_goesOn_184, zw_lit, xB_c, xB_s, xB_n, i1_c, j2_c, k1_c, jJ_e, xlg, xls, xla, xpd, ppush, zw_m1, zw_m2, zw_m3, gf_12_4, gf_12_5, gf_12_12, gf_12_13, gf_12_14, pf_12_5, pf_12_14, tg_12_12, tg_12_13, tg_12_14, tg_12_4, tg_12_5, gv_590_4, gv_590_5, gv_590_12, gv_590_13, gv_590_14, xD1, xD2, xD3, xD4, xD5, xD6, xb1_0, en, xp_ne, e5, z1] at h
    have h := (h.resolve_left (fun w => by have := w.1; omega)).2
    have r3 : pup (pup (pup H 597 p 0) 597 p (nxF sz T s.1)) 590 5 (s.1 + 1) 597 = xup (xup (H 597) o 0) o (nxF sz T s.1) := by rw [xp_ne (by decide), pupC, r1, ep]
    have r4 : pup (pup (pup H 597 p 0) 597 p (nxF sz T s.1)) 590 5 (s.1 + 1) 596 = H 596 := by rw [xp_ne (by decide), xp_ne (by decide), xp_ne (by decide)]
    refine ⟨_, _, h, MFl_trans (MFl_trans mf0 (MFl_up (by omega))) (MFl_up (by omega)), Or.inl ⟨rfl, o, (s.1 + 1, s.2), LKm_at (LKm_row (Or.inr rfl) lk1) hz, ⟨by show 0 ≤ s.1 + 1; omega, by show s.1 + 1 ≤ sz; omega, hg.2.2⟩, ?_, h8, by rw [r3, r4]; exact SGB_pr (SGB_pr hb (by decide)) (by omega), ?_⟩⟩
    · rw [r3, r4, pnF_pr, xup_a, bz_0]
      have := bz_in (nxF sz T s.1)
      show (s.2.2.length : Int) + _ ≤ 2 * s.2.1
      omega
    · rw [r3, r4, ← kA_more (pr := xup (H 597) o 0) (pr' := xup (xup (H 597) o 0) o (nxF sz T s.1)) o s hg (by omega) ht xup_a (by rw [eb]; exact c) (fun j j0 j1 => xup_n (by omega)) (by rw [xup_a, eb])]
      exact hk
  · have c0 := c
    unfold isP at c0
    have h := xw_top (hd := [0, 28, 64, 87, 134]) 12 xD6_ok xc_X12_goesOn xa_X12_goesOn (t := 28) rfl h
    simp (maxDischargeDepth := 12) -implicitDefEqProofs [vb_X12_goesOn_0, vb_X12_goesOn_28, vb_X12_goesOn_64, vb_X12_goesOn_87, vb_X12_goesOn_112, vb_X12_goesOn_134, vb_X12_goesOn_164, vb_X12_goesOn_165, vb_X12_goesOn_166, vb_X12_goesOn_184, xI_0, xI_1, xI_3, xI_7, xI_8, xI_9, xI_14, xI_15, xI_33, xI_36, xI_37, xI_38, xI_43, xI_44, xI_46, xI_49, xI_50, xI_51, xI_52, xI_61, xI_62, xw_X12_goesOn_0, xw_X12_goesOn_28, xw_X12_goesOn_64, xw_X12_goesOn_87, xw_X12_goesOn_112, xw_X12_goesOn_134, xw_X12_goesOn_164, xw_X12_goesOn_165, xw_X12_goesOn_166, xw_X12_goesOn_184, zw_lit, xB_c, xB_s, xB_n, i1_c, j2_c, k1_c, jJ_e, xlg, xls, xla, xpd, ppush, zw_m1, zw_m2, zw_m3, gf_12_4, gf_12_5, gf_12_12, gf_12_13, gf_12_14, pf_12_5, pf_12_14, tg_12_12, tg_12_13, tg_12_14, tg_12_4, tg_12_5, gv_590_4, gv_590_5, gv_590_12, gv_590_13, gv_590_14, xD1, xD2, xD3, xD4, xD5, xD6, xb1_0, en] at h
    have h := (h.resolve_right (fun w => by have := w.1; omega)).2
    obtain ⟨m2, hm2, h⟩ := h
    by_cases q : H 596 p = 0
    · have q' : pup H 597 p 0 596 p = 0 := by rw [r2]; exact q
      have h := xw_top (hd := [0, 28, 64, 87, 134]) 12 xD6_ok xc_X12_goesOn xa_X12_goesOn (t := 64) rfl h
      simp (maxDischargeDepth := 12) -implicitDefEqProofs [vb_X12_goesOn_0, vb_X12_goesOn_28, vb_X12_goesOn_64, vb_X12_goesOn_87, vb_X12_goesOn_112, vb_X12_goesOn_134, vb_X12_goesOn_164, vb_X12_goesOn_165, vb_X12_goesOn_166, vb_X12_goesOn_184, xI_0, xI_1, xI_3, xI_7, xI_8, xI_9, xI_14, xI_15, xI_33, xI_36, xI_37, xI_38, xI_43, xI_44, xI_46, xI_49, xI_50, xI_51, xI_52, xI_61, xI_62, xw_X12_goesOn_0, xw_X12_goesOn_28, xw_X12_goesOn_64, xw_X12_goesOn_87, xw_X12_goesOn_112, xw_X12_goesOn_134, xw_X12_goesOn_164, xw_X12_goesOn_165, xw_X12_goesOn_166, xw_X12_goesOn_184, zw_lit, xB_c, xB_s, xB_n, i1_c, j2_c, k1_c, jJ_e, xlg, xls, xla, xpd, ppush, zw_m1, zw_m2, zw_m3, gf_12_4, gf_12_5, gf_12_12, gf_12_13, gf_12_14, pf_12_5, pf_12_14, tg_12_12, tg_12_13, tg_12_14, tg_12_4, tg_12_5, gv_590_4, gv_590_5, gv_590_12, gv_590_13, gv_590_14, xD1, xD2, xD3, xD4, xD5, xD6, xb1_0, q', xp_ne, q] at h
      have e : xup (H 596) o 0 = H 596 := xup_self (by rw [← ep]; exact q.symm)
      obtain ⟨r, H', k1, k2⟩ := sg_87 sz T R (n := m2) (fun m3 hm3 => ih m3 (by omega)) o s (pup H 597 p 0) lk1 hg (by rw [r1, r2, e]; exact hl) ht h8 (by rw [r1, r2]; exact SGB_pr hb (by decide)) (by rw [r1, r2, e]; exact hk) (by rw [r1]; exact xup_a) c p ep h
      exact ⟨r, H', k1, MFl_trans mf0 k2.1, k2.2⟩
    · have q' : ¬ pup H 597 p 0 596 p = 0 := by rw [r2]; exact q
      have hbo := (hb o (by omega) (Int.le_refl _)).1
      rw [← ep] at hbo
      have zc : zw (11000 + H 596 p) = 11000 + H 596 p := zw_lit (by omega) (by omega)
      have pnu := pnF_su (su := H 596) (pr := xup (H 597) o 0) (v := 0) o
      have b1 : bz (H 596 o) = 1 := if_neg (by rw [← ep]; exact q)
      rw [b1, bz_0] at pnu
      have pn2 := pnF_in (xup (H 596) o 0) (xup (H 597) o 0) o
      have h10 := lk.2.1
      have l30 := hg.2.2.2.1
      have zn : zw (H 590 10 + 1) = H 590 10 + 1 := zw_lit (by omega) (by omega)
      have h := xw_top (hd := [0, 28, 64, 87, 134]) 12 xD6_ok xc_X12_goesOn xa_X12_goesOn (t := 64) rfl h
      simp (maxDischargeDepth := 12) -implicitDefEqProofs [vb_X12_goesOn_0, vb_X12_goesOn_28, vb_X12_goesOn_64, vb_X12_goesOn_87, vb_X12_goesOn_112, vb_X12_goesOn_134, vb_X12_goesOn_164, vb_X12_goesOn_165, vb_X12_goesOn_166, vb_X12_goesOn_184, xI_0, xI_1, xI_3, xI_7, xI_8, xI_9, xI_14, xI_15, xI_33, xI_36, xI_37, xI_38, xI_43, xI_44, xI_46, xI_49, xI_50, xI_51, xI_52, xI_61, xI_62, xw_X12_goesOn_0, xw_X12_goesOn_28, xw_X12_goesOn_64, xw_X12_goesOn_87, xw_X12_goesOn_112, xw_X12_goesOn_134, xw_X12_goesOn_164, xw_X12_goesOn_165, xw_X12_goesOn_166, xw_X12_goesOn_184, zw_lit, xB_c, xB_s, xB_n, i1_c, j2_c, k1_c, jJ_e, xlg, xls, xla, xpd, ppush, zw_m1, zw_m2, zw_m3, gf_12_4, gf_12_5, gf_12_12, gf_12_13, gf_12_14, pf_12_5, pf_12_14, tg_12_12, tg_12_13, tg_12_14, tg_12_4, tg_12_5, gv_590_4, gv_590_5, gv_590_12, gv_590_13, gv_590_14, xD1, xD2, xD3, xD4, xD5, xD6, xb1_0, q', xp_ne, q, zc] at h
      obtain ⟨r, H1, ⟨rfl, rfl⟩, g⟩ := xc_use h (sp_X12_does _ _)
      rw [xp_ne (by decide), zn] at g
      have e10 : pup H 597 p 0 590 10 = H 590 10 := by rw [xp_ne (by decide)]
      have lk2 := LKm_does (v := 11000 + H 596 p) lk1
      rw [e10] at lk2
      obtain ⟨X, hX⟩ : ∃ X : PH, X = pup (pup (pup H 597 p 0) 595 (H 590 10) (11000 + H 596 p)) 590 10 (H 590 10 + 1) := ⟨_, rfl⟩
      rw [← hX] at lk2 g
      have X6 : X 596 = H 596 := by rw [hX, xp_ne (by decide), xp_ne (by decide), xp_ne (by decide)]
      have X7 : X 597 = xup (H 597) o 0 := by rw [hX, xp_ne (by decide), xp_ne (by decide), r1]
      have mfX : MFl H X := by rw [hX]; exact MFl_trans mf0 (MFl_trans (MFl_up (by omega)) (MFl_up (by omega)))
      have pl := pst_len (s := s) (v := 11000 + H 596 p)
      have lgp : LGd sz (pst s (11000 + H 596 p)) := LGd_pst hg (by omega)
      obtain ⟨r, H', k1, k2⟩ := sg_87 sz T R (n := m2) (fun m3 hm3 => ih m3 (by omega)) o (pst s (11000 + H 596 p)) X lk2 lgp (by rw [X6, X7, pl, pnu]; show (s.2.2.length : Int) + 1 + (pnF (H 596) (xup (H 597) o 0) o - 1 + 0) + 1 ≤ 2 * s.2.1; omega) ht h8 (by rw [X6, X7]; exact SGB_pr hb (by decide)) (by
        rw [X6, X7]
        have := kA_sum (T := T) (z := sz) (su := H 596) (su' := xup (H 596) o 0) (pr := xup (H 597) o 0) o s xup_a (by rw [← ep]; exact q) (by rw [eb]; exact c) (fun j j0 j1 => xup_n (by omega)) xup_a
        rw [← ep] at this ⊢
        rw [← this, ep]
        exact hk) (by rw [X7]; exact xup_a) c p ep g
      exact ⟨r, H', k1, MFl_trans mfX k2.1, k2.2⟩
set_option maxRecDepth 100000 in
theorem lp_goes (sz : Int) (T : Int → Int) (R : Option (Int × List Int)) {E : xE} {res : xR} : ∀ (n : Nat) (o : Nat) (x : Int) (s : LwS) (H : PH), AST sz T R o s H → RUN E res n kd_X12_goesOn (zget kd_X12_goesOn 0) 0 [590, x] [] H → ∃ r H', REPR E res r H' ∧ GRs sz T R o H r H' := by
  intro n
  induction n using Nat.strongRecOn with
  | _ n ih =>
    intro o x s H hA h
    obtain ⟨lk, hg, hl, ht, h8, hb, hk⟩ := id hA
    have h14 := lk.2.2.2.2.1
    obtain ⟨p, ep⟩ : ∃ p : Int, p = o := ⟨_, rfl⟩
    rw [← ep] at h14
    by_cases q : H 597 p = 0
    · have h := xw_top (hd := [0, 28, 64, 87, 134]) 12 xD6_ok xc_X12_goesOn xa_X12_goesOn (t := 0) rfl h
      simp (maxDischargeDepth := 12) -implicitDefEqProofs [vb_X12_goesOn_0, vb_X12_goesOn_28, vb_X12_goesOn_64, vb_X12_goesOn_87, vb_X12_goesOn_112, vb_X12_goesOn_134, vb_X12_goesOn_164, vb_X12_goesOn_165, vb_X12_goesOn_166, vb_X12_goesOn_184, xI_0, xI_1, xI_3, xI_7, xI_8, xI_9, xI_14, xI_15, xI_33, xI_36, xI_37, xI_38, xI_43, xI_44, xI_46, xI_49, xI_50, xI_51, xI_52, xI_61, xI_62, xw_X12_goesOn_0, xw_X12_goesOn_28, xw_X12_goesOn_64, xw_X12_goesOn_87, xw_X12_goesOn_112, xw_X12_goesOn_134, xw_X12_goesOn_164, xw_X12_goesOn_165, xw_X12_goesOn_166, xw_X12_goesOn_184, zw_lit, xB_c, xB_s, xB_n, i1_c, j2_c, k1_c, jJ_e, xlg, xls, xla, xpd, ppush, zw_m1, zw_m2, zw_m3, gf_12_4, gf_12_5, gf_12_12, gf_12_13, gf_12_14, pf_12_5, pf_12_14, tg_12_12, tg_12_13, tg_12_14, tg_12_4, tg_12_5, gv_590_4, gv_590_5, gv_590_12, gv_590_13, gv_590_14, xD1, xD2, xD3, xD4, xD5, xD6, xb1_0, h14, q] at h
      have e : xup (H 597) o 0 = H 597 := xup_self (by rw [← ep]; exact q.symm)
      exact sg_28 sz T R ih o s H lk hg (by rw [e]; exact hl) ht h8 hb (by rw [e]; exact hk) p ep h
    · have hbo := (hb o (by omega) (Int.le_refl _)).2
      rw [← ep] at hbo
      have zc : zw (11000 + H 597 p) = 11000 + H 597 p := zw_lit (by omega) (by omega)
      have pnu := pnF_pr (su := H 596) (pr := H 597) (v := 0) o
      have b1 : bz (H 597 o) = 1 := if_neg (by rw [← ep]; exact q)
      rw [b1, bz_0] at pnu
      have pn2 := pnF_in (H 596) (xup (H 597) o 0) o
      have h10 := lk.2.1
      have l30 := hg.2.2.2.1
      have zn : zw (H 590 10 + 1) = H 590 10 + 1 := zw_lit (by omega) (by omega)
      have h := xw_top (hd := [0, 28, 64, 87, 134]) 12 xD6_ok xc_X12_goesOn xa_X12_goesOn (t := 0) rfl h
      simp (maxDischargeDepth := 12) -implicitDefEqProofs [vb_X12_goesOn_0, vb_X12_goesOn_28, vb_X12_goesOn_64, vb_X12_goesOn_87, vb_X12_goesOn_112, vb_X12_goesOn_134, vb_X12_goesOn_164, vb_X12_goesOn_165, vb_X12_goesOn_166, vb_X12_goesOn_184, xI_0, xI_1, xI_3, xI_7, xI_8, xI_9, xI_14, xI_15, xI_33, xI_36, xI_37, xI_38, xI_43, xI_44, xI_46, xI_49, xI_50, xI_51, xI_52, xI_61, xI_62, xw_X12_goesOn_0, xw_X12_goesOn_28, xw_X12_goesOn_64, xw_X12_goesOn_87, xw_X12_goesOn_112, xw_X12_goesOn_134, xw_X12_goesOn_164, xw_X12_goesOn_165, xw_X12_goesOn_166, xw_X12_goesOn_184, zw_lit, xB_c, xB_s, xB_n, i1_c, j2_c, k1_c, jJ_e, xlg, xls, xla, xpd, ppush, zw_m1, zw_m2, zw_m3, gf_12_4, gf_12_5, gf_12_12, gf_12_13, gf_12_14, pf_12_5, pf_12_14, tg_12_12, tg_12_13, tg_12_14, tg_12_4, tg_12_5, gv_590_4, gv_590_5, gv_590_12, gv_590_13, gv_590_14, xD1, xD2, xD3, xD4, xD5, xD6, xb1_0, h14, q, zc] at h
      obtain ⟨r, H1, ⟨rfl, rfl⟩, g⟩ := xc_use h (sp_X12_does _ _)
      rw [zn] at g
      have lk2 := LKm_does (v := 11000 + H 597 p) lk
      obtain ⟨X, hX⟩ : ∃ X : PH, X = pup (pup H 595 (H 590 10) (11000 + H 597 p)) 590 10 (H 590 10 + 1) := ⟨_, rfl⟩
      rw [← hX] at lk2 g
      have X6 : X 596 = H 596 := by rw [hX, xp_ne (by decide), xp_ne (by decide)]
      have X7 : X 597 = H 597 := by rw [hX, xp_ne (by decide), xp_ne (by decide)]
      have mfX : MFl H X := by rw [hX]; exact MFl_trans (MFl_up (by omega)) (MFl_up (by omega))
      have pl := pst_len (s := s) (v := 11000 + H 597 p)
      have lgp : LGd sz (pst s (11000 + H 597 p)) := LGd_pst hg (by omega)
      obtain ⟨r, H', k1, k2⟩ := sg_28 sz T R (n := n) ih o (pst s (11000 + H 597 p)) X lk2 lgp (by rw [X6, X7, pl, pnu]; show (s.2.2.length : Int) + 1 + (pnF (H 596) (H 597) o - 1 + 0) + 1 ≤ 2 * s.2.1; omega) ht h8 (by rw [X6, X7]; exact hb) (by
        rw [X6, X7]
        have := kA_prod (T := T) (z := sz) (su := H 596) (pr := H 597) (pr' := xup (H 597) o 0) o s (by rw [← ep]; exact q) (fun j j0 j1 => xup_n (by omega)) xup_a
        rw [← ep] at this ⊢
        rw [← this]
        exact hk) p ep g
      exact ⟨r, H', k1, MFl_trans mfX k2.1, k2.2⟩
theorem sp_X12_goesOn (sz : Int) (T : Int → Int) (R : Option (Int × List Int)) (o : Nat) (s : LwS) (H : PH) (hA : AST sz T R o s H) : SPEC 187 [(2, 590)] H (fun r H' => GRs sz T R o H r H') := by
  intro E n res h
  have h := call_runP 2 vm_X12_goesOn h
  exact lp_goes sz T R n o 0 s H hA h
