def xm_X12_is : List xbT := [(0, vb_X12_is_0, some 72), (72, vb_X12_is_72, some 79), (79, vb_X12_is_79, some 86), (86, vb_X12_is_86, some 93), (93, vb_X12_is_93, some 102), (102, vb_X12_is_102, some 109), (109, vb_X12_is_109, some 116), (116, vb_X12_is_116, some 123), (123, vb_X12_is_123, some 128), (128, vb_X12_is_128, some 133), (133, vb_X12_is_133, some 139), (139, vb_X12_is_139, some 146), (146, vb_X12_is_146, some 153), (153, vb_X12_is_153, some 161), (161, vb_X12_is_161, some 169), (169, vb_X12_is_169, none)]
theorem xc_X12_is : xOK kd_X12_is xm_X12_is := ⟨ve_X12_is_0, ve_X12_is_72, ve_X12_is_79, ve_X12_is_86, ve_X12_is_93, ve_X12_is_102, ve_X12_is_109, ve_X12_is_116, ve_X12_is_123, ve_X12_is_128, ve_X12_is_133, ve_X12_is_139, ve_X12_is_146, ve_X12_is_153, ve_X12_is_161, ve_X12_is_169, trivial⟩
theorem xa_X12_is : xm_X12_is.all (fun q => aOKb q.2.1 && !q.2.1.isEmpty) = true := by decide +kernel
theorem xw_X12_is_0 {E : xE} {res : xR} {N : Nat} {hd : List Nat} {C : xCT} {k : Nat} {L : List Int} {st : List pv} {H : PH} : xW E res N kd_X12_is xm_X12_is hd C (k + 1) 0 L st H = xB (fun t L st H => if t ∈ hd then xJ E res N kd_X12_is t L st H else xW E res N kd_X12_is xm_X12_is hd C k t L st H) (REPR E res) C (some 72) vb_X12_is_0 0 L st H := Eq.trans rfl rfl
theorem xw_X12_is_72 {E : xE} {res : xR} {N : Nat} {hd : List Nat} {C : xCT} {k : Nat} {L : List Int} {st : List pv} {H : PH} : xW E res N kd_X12_is xm_X12_is hd C (k + 1) 72 L st H = xB (fun t L st H => if t ∈ hd then xJ E res N kd_X12_is t L st H else xW E res N kd_X12_is xm_X12_is hd C k t L st H) (REPR E res) C (some 79) vb_X12_is_72 72 L st H := Eq.trans rfl rfl
theorem xw_X12_is_79 {E : xE} {res : xR} {N : Nat} {hd : List Nat} {C : xCT} {k : Nat} {L : List Int} {st : List pv} {H : PH} : xW E res N kd_X12_is xm_X12_is hd C (k + 1) 79 L st H = xB (fun t L st H => if t ∈ hd then xJ E res N kd_X12_is t L st H else xW E res N kd_X12_is xm_X12_is hd C k t L st H) (REPR E res) C (some 86) vb_X12_is_79 79 L st H := Eq.trans rfl rfl
theorem xw_X12_is_86 {E : xE} {res : xR} {N : Nat} {hd : List Nat} {C : xCT} {k : Nat} {L : List Int} {st : List pv} {H : PH} : xW E res N kd_X12_is xm_X12_is hd C (k + 1) 86 L st H = xB (fun t L st H => if t ∈ hd then xJ E res N kd_X12_is t L st H else xW E res N kd_X12_is xm_X12_is hd C k t L st H) (REPR E res) C (some 93) vb_X12_is_86 86 L st H := Eq.trans rfl rfl
theorem xw_X12_is_93 {E : xE} {res : xR} {N : Nat} {hd : List Nat} {C : xCT} {k : Nat} {L : List Int} {st : List pv} {H : PH} : xW E res N kd_X12_is xm_X12_is hd C (k + 1) 93 L st H = xB (fun t L st H => if t ∈ hd then xJ E res N kd_X12_is t L st H else xW E res N kd_X12_is xm_X12_is hd C k t L st H) (REPR E res) C (some 102) vb_X12_is_93 93 L st H := Eq.trans rfl rfl
theorem xw_X12_is_102 {E : xE} {res : xR} {N : Nat} {hd : List Nat} {C : xCT} {k : Nat} {L : List Int} {st : List pv} {H : PH} : xW E res N kd_X12_is xm_X12_is hd C (k + 1) 102 L st H = xB (fun t L st H => if t ∈ hd then xJ E res N kd_X12_is t L st H else xW E res N kd_X12_is xm_X12_is hd C k t L st H) (REPR E res) C (some 109) vb_X12_is_102 102 L st H := Eq.trans rfl rfl
theorem xw_X12_is_109 {E : xE} {res : xR} {N : Nat} {hd : List Nat} {C : xCT} {k : Nat} {L : List Int} {st : List pv} {H : PH} : xW E res N kd_X12_is xm_X12_is hd C (k + 1) 109 L st H = xB (fun t L st H => if t ∈ hd then xJ E res N kd_X12_is t L st H else xW E res N kd_X12_is xm_X12_is hd C k t L st H) (REPR E res) C (some 116) vb_X12_is_109 109 L st H := Eq.trans rfl rfl
theorem xw_X12_is_116 {E : xE} {res : xR} {N : Nat} {hd : List Nat} {C : xCT} {k : Nat} {L : List Int} {st : List pv} {H : PH} : xW E res N kd_X12_is xm_X12_is hd C (k + 1) 116 L st H = xB (fun t L st H => if t ∈ hd then xJ E res N kd_X12_is t L st H else xW E res N kd_X12_is xm_X12_is hd C k t L st H) (REPR E res) C (some 123) vb_X12_is_116 116 L st H := Eq.trans rfl rfl
theorem xw_X12_is_123 {E : xE} {res : xR} {N : Nat} {hd : List Nat} {C : xCT} {k : Nat} {L : List Int} {st : List pv} {H : PH} : xW E res N kd_X12_is xm_X12_is hd C (k + 1) 123 L st H = xB (fun t L st H => if t ∈ hd then xJ E res N kd_X12_is t L st H else xW E res N kd_X12_is xm_X12_is hd C k t L st H) (REPR E res) C (some 128) vb_X12_is_123 123 L st H := Eq.trans rfl rfl
theorem xw_X12_is_128 {E : xE} {res : xR} {N : Nat} {hd : List Nat} {C : xCT} {k : Nat} {L : List Int} {st : List pv} {H : PH} : xW E res N kd_X12_is xm_X12_is hd C (k + 1) 128 L st H = xB (fun t L st H => if t ∈ hd then xJ E res N kd_X12_is t L st H else xW E res N kd_X12_is xm_X12_is hd C k t L st H) (REPR E res) C (some 133) vb_X12_is_128 128 L st H := Eq.trans rfl rfl
theorem xw_X12_is_133 {E : xE} {res : xR} {N : Nat} {hd : List Nat} {C : xCT} {k : Nat} {L : List Int} {st : List pv} {H : PH} : xW E res N kd_X12_is xm_X12_is hd C (k + 1) 133 L st H = xB (fun t L st H => if t ∈ hd then xJ E res N kd_X12_is t L st H else xW E res N kd_X12_is xm_X12_is hd C k t L st H) (REPR E res) C (some 139) vb_X12_is_133 133 L st H := Eq.trans rfl rfl
theorem xw_X12_is_139 {E : xE} {res : xR} {N : Nat} {hd : List Nat} {C : xCT} {k : Nat} {L : List Int} {st : List pv} {H : PH} : xW E res N kd_X12_is xm_X12_is hd C (k + 1) 139 L st H = xB (fun t L st H => if t ∈ hd then xJ E res N kd_X12_is t L st H else xW E res N kd_X12_is xm_X12_is hd C k t L st H) (REPR E res) C (some 146) vb_X12_is_139 139 L st H := Eq.trans rfl rfl
theorem xw_X12_is_146 {E : xE} {res : xR} {N : Nat} {hd : List Nat} {C : xCT} {k : Nat} {L : List Int} {st : List pv} {H : PH} : xW E res N kd_X12_is xm_X12_is hd C (k + 1) 146 L st H = xB (fun t L st H => if t ∈ hd then xJ E res N kd_X12_is t L st H else xW E res N kd_X12_is xm_X12_is hd C k t L st H) (REPR E res) C (some 153) vb_X12_is_146 146 L st H := Eq.trans rfl rfl
theorem xw_X12_is_153 {E : xE} {res : xR} {N : Nat} {hd : List Nat} {C : xCT} {k : Nat} {L : List Int} {st : List pv} {H : PH} : xW E res N kd_X12_is xm_X12_is hd C (k + 1) 153 L st H = xB (fun t L st H => if t ∈ hd then xJ E res N kd_X12_is t L st H else xW E res N kd_X12_is xm_X12_is hd C k t L st H) (REPR E res) C (some 161) vb_X12_is_153 153 L st H := Eq.trans rfl rfl
theorem xw_X12_is_161 {E : xE} {res : xR} {N : Nat} {hd : List Nat} {C : xCT} {k : Nat} {L : List Int} {st : List pv} {H : PH} : xW E res N kd_X12_is xm_X12_is hd C (k + 1) 161 L st H = xB (fun t L st H => if t ∈ hd then xJ E res N kd_X12_is t L st H else xW E res N kd_X12_is xm_X12_is hd C k t L st H) (REPR E res) C (some 169) vb_X12_is_161 161 L st H := Eq.trans rfl rfl
theorem xw_X12_is_169 {E : xE} {res : xR} {N : Nat} {hd : List Nat} {C : xCT} {k : Nat} {L : List Int} {st : List pv} {H : PH} : xW E res N kd_X12_is xm_X12_is hd C (k + 1) 169 L st H = xB (fun t L st H => if t ∈ hd then xJ E res N kd_X12_is t L st H else xW E res N kd_X12_is xm_X12_is hd C k t L st H) (REPR E res) C (none) vb_X12_is_169 169 L st H := Eq.trans rfl rfl
def xm_X12_countReads : List xbT := [(0, vb_X12_countReads_0, some 8), (8, vb_X12_countReads_8, some 36), (36, vb_X12_countReads_36, some 40), (40, vb_X12_countReads_40, some 54), (54, vb_X12_countReads_54, some 55), (55, vb_X12_countReads_55, some 63), (63, vb_X12_countReads_63, none)]
theorem xc_X12_countReads : xOK kd_X12_countReads xm_X12_countReads := ⟨ve_X12_countReads_0, ve_X12_countReads_8, ve_X12_countReads_36, ve_X12_countReads_40, ve_X12_countReads_54, ve_X12_countReads_55, ve_X12_countReads_63, trivial⟩
theorem xa_X12_countReads : xm_X12_countReads.all (fun q => aOKb q.2.1 && !q.2.1.isEmpty) = true := by decide +kernel
theorem xw_X12_countReads_0 {E : xE} {res : xR} {N : Nat} {hd : List Nat} {C : xCT} {k : Nat} {L : List Int} {st : List pv} {H : PH} : xW E res N kd_X12_countReads xm_X12_countReads hd C (k + 1) 0 L st H = xB (fun t L st H => if t ∈ hd then xJ E res N kd_X12_countReads t L st H else xW E res N kd_X12_countReads xm_X12_countReads hd C k t L st H) (REPR E res) C (some 8) vb_X12_countReads_0 0 L st H := Eq.trans rfl rfl
theorem xw_X12_countReads_8 {E : xE} {res : xR} {N : Nat} {hd : List Nat} {C : xCT} {k : Nat} {L : List Int} {st : List pv} {H : PH} : xW E res N kd_X12_countReads xm_X12_countReads hd C (k + 1) 8 L st H = xB (fun t L st H => if t ∈ hd then xJ E res N kd_X12_countReads t L st H else xW E res N kd_X12_countReads xm_X12_countReads hd C k t L st H) (REPR E res) C (some 36) vb_X12_countReads_8 8 L st H := Eq.trans rfl rfl
theorem xw_X12_countReads_36 {E : xE} {res : xR} {N : Nat} {hd : List Nat} {C : xCT} {k : Nat} {L : List Int} {st : List pv} {H : PH} : xW E res N kd_X12_countReads xm_X12_countReads hd C (k + 1) 36 L st H = xB (fun t L st H => if t ∈ hd then xJ E res N kd_X12_countReads t L st H else xW E res N kd_X12_countReads xm_X12_countReads hd C k t L st H) (REPR E res) C (some 40) vb_X12_countReads_36 36 L st H := Eq.trans rfl rfl
theorem xw_X12_countReads_40 {E : xE} {res : xR} {N : Nat} {hd : List Nat} {C : xCT} {k : Nat} {L : List Int} {st : List pv} {H : PH} : xW E res N kd_X12_countReads xm_X12_countReads hd C (k + 1) 40 L st H = xB (fun t L st H => if t ∈ hd then xJ E res N kd_X12_countReads t L st H else xW E res N kd_X12_countReads xm_X12_countReads hd C k t L st H) (REPR E res) C (some 54) vb_X12_countReads_40 40 L st H := Eq.trans rfl rfl
theorem xw_X12_countReads_54 {E : xE} {res : xR} {N : Nat} {hd : List Nat} {C : xCT} {k : Nat} {L : List Int} {st : List pv} {H : PH} : xW E res N kd_X12_countReads xm_X12_countReads hd C (k + 1) 54 L st H = xB (fun t L st H => if t ∈ hd then xJ E res N kd_X12_countReads t L st H else xW E res N kd_X12_countReads xm_X12_countReads hd C k t L st H) (REPR E res) C (some 55) vb_X12_countReads_54 54 L st H := Eq.trans rfl rfl
theorem xw_X12_countReads_55 {E : xE} {res : xR} {N : Nat} {hd : List Nat} {C : xCT} {k : Nat} {L : List Int} {st : List pv} {H : PH} : xW E res N kd_X12_countReads xm_X12_countReads hd C (k + 1) 55 L st H = xB (fun t L st H => if t ∈ hd then xJ E res N kd_X12_countReads t L st H else xW E res N kd_X12_countReads xm_X12_countReads hd C k t L st H) (REPR E res) C (some 63) vb_X12_countReads_55 55 L st H := Eq.trans rfl rfl
theorem xw_X12_countReads_63 {E : xE} {res : xR} {N : Nat} {hd : List Nat} {C : xCT} {k : Nat} {L : List Int} {st : List pv} {H : PH} : xW E res N kd_X12_countReads xm_X12_countReads hd C (k + 1) 63 L st H = xB (fun t L st H => if t ∈ hd then xJ E res N kd_X12_countReads t L st H else xW E res N kd_X12_countReads xm_X12_countReads hd C k t L st H) (REPR E res) C (none) vb_X12_countReads_63 63 L st H := Eq.trans rfl rfl
def xm_X12_paidFor : List xbT := [(0, vb_X12_paidFor_0, some 53), (53, vb_X12_paidFor_53, some 123), (123, vb_X12_paidFor_123, some 141), (141, vb_X12_paidFor_141, some 153), (153, vb_X12_paidFor_153, some 167), (167, vb_X12_paidFor_167, none)]
theorem xc_X12_paidFor : xOK kd_X12_paidFor xm_X12_paidFor := ⟨ve_X12_paidFor_0, ve_X12_paidFor_53, ve_X12_paidFor_123, ve_X12_paidFor_141, ve_X12_paidFor_153, ve_X12_paidFor_167, trivial⟩
theorem xa_X12_paidFor : xm_X12_paidFor.all (fun q => aOKb q.2.1 && !q.2.1.isEmpty) = true := by decide +kernel
theorem xw_X12_paidFor_0 {E : xE} {res : xR} {N : Nat} {hd : List Nat} {C : xCT} {k : Nat} {L : List Int} {st : List pv} {H : PH} : xW E res N kd_X12_paidFor xm_X12_paidFor hd C (k + 1) 0 L st H = xB (fun t L st H => if t ∈ hd then xJ E res N kd_X12_paidFor t L st H else xW E res N kd_X12_paidFor xm_X12_paidFor hd C k t L st H) (REPR E res) C (some 53) vb_X12_paidFor_0 0 L st H := Eq.trans rfl rfl
theorem xw_X12_paidFor_53 {E : xE} {res : xR} {N : Nat} {hd : List Nat} {C : xCT} {k : Nat} {L : List Int} {st : List pv} {H : PH} : xW E res N kd_X12_paidFor xm_X12_paidFor hd C (k + 1) 53 L st H = xB (fun t L st H => if t ∈ hd then xJ E res N kd_X12_paidFor t L st H else xW E res N kd_X12_paidFor xm_X12_paidFor hd C k t L st H) (REPR E res) C (some 123) vb_X12_paidFor_53 53 L st H := Eq.trans rfl rfl
theorem xw_X12_paidFor_123 {E : xE} {res : xR} {N : Nat} {hd : List Nat} {C : xCT} {k : Nat} {L : List Int} {st : List pv} {H : PH} : xW E res N kd_X12_paidFor xm_X12_paidFor hd C (k + 1) 123 L st H = xB (fun t L st H => if t ∈ hd then xJ E res N kd_X12_paidFor t L st H else xW E res N kd_X12_paidFor xm_X12_paidFor hd C k t L st H) (REPR E res) C (some 141) vb_X12_paidFor_123 123 L st H := Eq.trans rfl rfl
theorem xw_X12_paidFor_141 {E : xE} {res : xR} {N : Nat} {hd : List Nat} {C : xCT} {k : Nat} {L : List Int} {st : List pv} {H : PH} : xW E res N kd_X12_paidFor xm_X12_paidFor hd C (k + 1) 141 L st H = xB (fun t L st H => if t ∈ hd then xJ E res N kd_X12_paidFor t L st H else xW E res N kd_X12_paidFor xm_X12_paidFor hd C k t L st H) (REPR E res) C (some 153) vb_X12_paidFor_141 141 L st H := Eq.trans rfl rfl
theorem xw_X12_paidFor_153 {E : xE} {res : xR} {N : Nat} {hd : List Nat} {C : xCT} {k : Nat} {L : List Int} {st : List pv} {H : PH} : xW E res N kd_X12_paidFor xm_X12_paidFor hd C (k + 1) 153 L st H = xB (fun t L st H => if t ∈ hd then xJ E res N kd_X12_paidFor t L st H else xW E res N kd_X12_paidFor xm_X12_paidFor hd C k t L st H) (REPR E res) C (some 167) vb_X12_paidFor_153 153 L st H := Eq.trans rfl rfl
theorem xw_X12_paidFor_167 {E : xE} {res : xR} {N : Nat} {hd : List Nat} {C : xCT} {k : Nat} {L : List Int} {st : List pv} {H : PH} : xW E res N kd_X12_paidFor xm_X12_paidFor hd C (k + 1) 167 L st H = xB (fun t L st H => if t ∈ hd then xJ E res N kd_X12_paidFor t L st H else xW E res N kd_X12_paidFor xm_X12_paidFor hd C k t L st H) (REPR E res) C (none) vb_X12_paidFor_167 167 L st H := Eq.trans rfl rfl
def xm_X12_paid : List xbT := [(0, vb_X12_paid_0, some 16), (16, vb_X12_paid_16, some 31), (31, vb_X12_paid_31, some 35), (35, vb_X12_paid_35, some 59), (59, vb_X12_paid_59, none)]
theorem xc_X12_paid : xOK kd_X12_paid xm_X12_paid := ⟨ve_X12_paid_0, ve_X12_paid_16, ve_X12_paid_31, ve_X12_paid_35, ve_X12_paid_59, trivial⟩
theorem xa_X12_paid : xm_X12_paid.all (fun q => aOKb q.2.1 && !q.2.1.isEmpty) = true := by decide +kernel
theorem xw_X12_paid_0 {E : xE} {res : xR} {N : Nat} {hd : List Nat} {C : xCT} {k : Nat} {L : List Int} {st : List pv} {H : PH} : xW E res N kd_X12_paid xm_X12_paid hd C (k + 1) 0 L st H = xB (fun t L st H => if t ∈ hd then xJ E res N kd_X12_paid t L st H else xW E res N kd_X12_paid xm_X12_paid hd C k t L st H) (REPR E res) C (some 16) vb_X12_paid_0 0 L st H := Eq.trans rfl rfl
theorem xw_X12_paid_16 {E : xE} {res : xR} {N : Nat} {hd : List Nat} {C : xCT} {k : Nat} {L : List Int} {st : List pv} {H : PH} : xW E res N kd_X12_paid xm_X12_paid hd C (k + 1) 16 L st H = xB (fun t L st H => if t ∈ hd then xJ E res N kd_X12_paid t L st H else xW E res N kd_X12_paid xm_X12_paid hd C k t L st H) (REPR E res) C (some 31) vb_X12_paid_16 16 L st H := Eq.trans rfl rfl
theorem xw_X12_paid_31 {E : xE} {res : xR} {N : Nat} {hd : List Nat} {C : xCT} {k : Nat} {L : List Int} {st : List pv} {H : PH} : xW E res N kd_X12_paid xm_X12_paid hd C (k + 1) 31 L st H = xB (fun t L st H => if t ∈ hd then xJ E res N kd_X12_paid t L st H else xW E res N kd_X12_paid xm_X12_paid hd C k t L st H) (REPR E res) C (some 35) vb_X12_paid_31 31 L st H := Eq.trans rfl rfl
theorem xw_X12_paid_35 {E : xE} {res : xR} {N : Nat} {hd : List Nat} {C : xCT} {k : Nat} {L : List Int} {st : List pv} {H : PH} : xW E res N kd_X12_paid xm_X12_paid hd C (k + 1) 35 L st H = xB (fun t L st H => if t ∈ hd then xJ E res N kd_X12_paid t L st H else xW E res N kd_X12_paid xm_X12_paid hd C k t L st H) (REPR E res) C (some 59) vb_X12_paid_35 35 L st H := Eq.trans rfl rfl
theorem xw_X12_paid_59 {E : xE} {res : xR} {N : Nat} {hd : List Nat} {C : xCT} {k : Nat} {L : List Int} {st : List pv} {H : PH} : xW E res N kd_X12_paid xm_X12_paid hd C (k + 1) 59 L st H = xB (fun t L st H => if t ∈ hd then xJ E res N kd_X12_paid t L st H else xW E res N kd_X12_paid xm_X12_paid hd C k t L st H) (REPR E res) C (none) vb_X12_paid_59 59 L st H := Eq.trans rfl rfl
/-! ===== the model: is, paid ===== -/
set_option maxRecDepth 100000 in
theorem lp_cr0 (A : Int → Int) (hB : MB A) (H : PH) (hA : H 591 = A) (hR : ∀ x, 0 ≤ x → x < A 2 → H 600 x = rdL A x) {E : xE} {res : xR} : ∀ (n : Nat) (k v : Int), 0 ≤ k → k ≤ A 2 → 0 ≤ v → v ≤ k → RUN E res n kd_X12_countReads (zget kd_X12_countReads 8) 8 [590, 0, v, k] [] H → REPR E res (some (0, fdS (fun k => if min 0 (rdL A k) = 0 then 1 else 0) (A 2 - k).toNat k v)) H := by
  intro n
  induction n using Nat.strongRecOn with
  | _ n ih =>
    intro k v k0 k1 v0 v1 h
    have a2 := hB.2.2.1
    have z1 : zw (k + 1) = k + 1 := zw_lit (by omega) (by omega)
    have zv : zw (v + 1) = v + 1 := zw_lit (by omega) (by omega)
    have zv0 : zw (v + 0) = v := by rw [Int.add_zero]; exact zw_lit (by omega) (by omega)
    have zv1 : zw v = v := zw_lit (by omega) (by omega)
    by_cases c : k < A 2
    · have c' : ¬ A 2 ≤ k := by omega
      have st : (A 2 - k).toNat = (A 2 - (k + 1)).toNat + 1 := by omega
      have e := hR k k0 c
      rw [st]
      unfold fdS
      by_cases q : 0 ≤ rdL A k
      · have q' : ¬ rdL A k < 0 := by omega
        have h := xw_top (hd := [8]) 9 xD6_ok xc_X12_countReads xa_X12_countReads (t := 8) rfl h
        simp (maxDischargeDepth := 12) -implicitDefEqProofs [vb_X12_countReads_0, vb_X12_countReads_8, vb_X12_countReads_36, vb_X12_countReads_40, vb_X12_countReads_54, vb_X12_countReads_55, vb_X12_countReads_63, xI_0, xI_1, xI_3, xI_6, xI_7, xI_14, xI_36, xI_38, xI_39, xI_44, xI_46, xI_49, xI_51, xI_61, xI_62, xw_X12_countReads_0, xw_X12_countReads_8, xw_X12_countReads_36, xw_X12_countReads_40, xw_X12_countReads_54, xw_X12_countReads_55, xw_X12_countReads_63, zw_lit, xB_c, xB_s, xB_n, i1_c, j2_c, k1_c, jJ_e, xlg, xls, xla, xpd, ppush, zw_m1, zw_m2, zw_m3, gf_12_0, gf_12_20, tg_12_0, tg_12_20, gv_590_0, gv_590_20, xD1, xD2, xD3, xD4, xD5, xD6, xb1_0, hA, c, c', e, q, q', z1, zv, zv0, zv1] at h
        obtain ⟨m, hm, h⟩ := h
        rw [if_pos (show min 0 (rdL A k) = 0 by omega)]
        exact ih m hm (k + 1) _ (by omega) (by omega) (by omega) (by omega) h
      · have q' : rdL A k < 0 := by omega
        have h := xw_top (hd := [8]) 9 xD6_ok xc_X12_countReads xa_X12_countReads (t := 8) rfl h
        simp (maxDischargeDepth := 12) -implicitDefEqProofs [vb_X12_countReads_0, vb_X12_countReads_8, vb_X12_countReads_36, vb_X12_countReads_40, vb_X12_countReads_54, vb_X12_countReads_55, vb_X12_countReads_63, xI_0, xI_1, xI_3, xI_6, xI_7, xI_14, xI_36, xI_38, xI_39, xI_44, xI_46, xI_49, xI_51, xI_61, xI_62, xw_X12_countReads_0, xw_X12_countReads_8, xw_X12_countReads_36, xw_X12_countReads_40, xw_X12_countReads_54, xw_X12_countReads_55, xw_X12_countReads_63, zw_lit, xB_c, xB_s, xB_n, i1_c, j2_c, k1_c, jJ_e, xlg, xls, xla, xpd, ppush, zw_m1, zw_m2, zw_m3, gf_12_0, gf_12_20, tg_12_0, tg_12_20, gv_590_0, gv_590_20, xD1, xD2, xD3, xD4, xD5, xD6, xb1_0, hA, c, c', e, q, q', z1, zv, zv0, zv1] at h
        obtain ⟨m, hm, h⟩ := h
        rw [if_neg (show ¬ min 0 (rdL A k) = 0 by omega), Int.add_zero]
        exact ih m hm (k + 1) _ (by omega) (by omega) (by omega) (by omega) h
    · have c' : A 2 ≤ k := by omega
      rw [show (A 2 - k).toNat = 0 by omega]
      have h := xw_top (hd := [8]) 9 xD6_ok xc_X12_countReads xa_X12_countReads (t := 8) rfl h
      simp (maxDischargeDepth := 12) -implicitDefEqProofs [vb_X12_countReads_0, vb_X12_countReads_8, vb_X12_countReads_36, vb_X12_countReads_40, vb_X12_countReads_54, vb_X12_countReads_55, vb_X12_countReads_63, xI_0, xI_1, xI_3, xI_6, xI_7, xI_14, xI_36, xI_38, xI_39, xI_44, xI_46, xI_49, xI_51, xI_61, xI_62, xw_X12_countReads_0, xw_X12_countReads_8, xw_X12_countReads_36, xw_X12_countReads_40, xw_X12_countReads_54, xw_X12_countReads_55, xw_X12_countReads_63, zw_lit, xB_c, xB_s, xB_n, i1_c, j2_c, k1_c, jJ_e, xlg, xls, xla, xpd, ppush, zw_m1, zw_m2, zw_m3, gf_12_0, gf_12_20, tg_12_0, tg_12_20, gv_590_0, gv_590_20, xD1, xD2, xD3, xD4, xD5, xD6, xb1_0, hA, c, c'] at h
      exact h
set_option maxRecDepth 100000 in
theorem lp_cr2 (A : Int → Int) (hB : MB A) (H : PH) (hA : H 591 = A) (hR : ∀ x, 0 ≤ x → x < A 2 → H 600 x = rdL A x) {E : xE} {res : xR} : ∀ (n : Nat) (k v : Int), 0 ≤ k → k ≤ A 2 → 0 ≤ v → v ≤ k → RUN E res n kd_X12_countReads (zget kd_X12_countReads 8) 8 [590, (-2), v, k] [] H → REPR E res (some (0, fdS (fun k => if min 0 (rdL A k) = (-2) then 1 else 0) (A 2 - k).toNat k v)) H := by
  intro n
  induction n using Nat.strongRecOn with
  | _ n ih =>
    intro k v k0 k1 v0 v1 h
    have a2 := hB.2.2.1
    have z1 : zw (k + 1) = k + 1 := zw_lit (by omega) (by omega)
    have zv : zw (v + 1) = v + 1 := zw_lit (by omega) (by omega)
    have zv0 : zw (v + 0) = v := by rw [Int.add_zero]; exact zw_lit (by omega) (by omega)
    have zv1 : zw v = v := zw_lit (by omega) (by omega)
    by_cases c : k < A 2
    · have c' : ¬ A 2 ≤ k := by omega
      have st : (A 2 - k).toNat = (A 2 - (k + 1)).toNat + 1 := by omega
      have e := hR k k0 c
      rw [st]
      unfold fdS
      by_cases q : rdL A k = -2
      · have q' : ¬ (rdL A k < -2 ∨ -2 < rdL A k) := by omega
        have h := xw_top (hd := [8]) 9 xD6_ok xc_X12_countReads xa_X12_countReads (t := 8) rfl h
        simp (maxDischargeDepth := 12) -implicitDefEqProofs [vb_X12_countReads_0, vb_X12_countReads_8, vb_X12_countReads_36, vb_X12_countReads_40, vb_X12_countReads_54, vb_X12_countReads_55, vb_X12_countReads_63, xI_0, xI_1, xI_3, xI_6, xI_7, xI_14, xI_36, xI_38, xI_39, xI_44, xI_46, xI_49, xI_51, xI_61, xI_62, xw_X12_countReads_0, xw_X12_countReads_8, xw_X12_countReads_36, xw_X12_countReads_40, xw_X12_countReads_54, xw_X12_countReads_55, xw_X12_countReads_63, zw_lit, xB_c, xB_s, xB_n, i1_c, j2_c, k1_c, jJ_e, xlg, xls, xla, xpd, ppush, zw_m1, zw_m2, zw_m3, gf_12_0, gf_12_20, tg_12_0, tg_12_20, gv_590_0, gv_590_20, xD1, xD2, xD3, xD4, xD5, xD6, xb1_0, hA, c, c', e, q, q', z1, zv, zv0, zv1] at h
        obtain ⟨m, hm, h⟩ := h
        rw [if_pos (show min 0 (rdL A k) = (-2) by omega)]
        exact ih m hm (k + 1) _ (by omega) (by omega) (by omega) (by omega) h
      · have q' : (rdL A k < -2 ∨ -2 < rdL A k) := by omega
        have h := xw_top (hd := [8]) 9 xD6_ok xc_X12_countReads xa_X12_countReads (t := 8) rfl h
        simp (maxDischargeDepth := 12) -implicitDefEqProofs [vb_X12_countReads_0, vb_X12_countReads_8, vb_X12_countReads_36, vb_X12_countReads_40, vb_X12_countReads_54, vb_X12_countReads_55, vb_X12_countReads_63, xI_0, xI_1, xI_3, xI_6, xI_7, xI_14, xI_36, xI_38, xI_39, xI_44, xI_46, xI_49, xI_51, xI_61, xI_62, xw_X12_countReads_0, xw_X12_countReads_8, xw_X12_countReads_36, xw_X12_countReads_40, xw_X12_countReads_54, xw_X12_countReads_55, xw_X12_countReads_63, zw_lit, xB_c, xB_s, xB_n, i1_c, j2_c, k1_c, jJ_e, xlg, xls, xla, xpd, ppush, zw_m1, zw_m2, zw_m3, gf_12_0, gf_12_20, tg_12_0, tg_12_20, gv_590_0, gv_590_20, xD1, xD2, xD3, xD4, xD5, xD6, xb1_0, hA, c, c', e, q, q', z1, zv, zv0, zv1] at h
        obtain ⟨m, hm, h⟩ := h
        rw [if_neg (show ¬ min 0 (rdL A k) = (-2) by omega), Int.add_zero]
        exact ih m hm (k + 1) _ (by omega) (by omega) (by omega) (by omega) h
    · have c' : A 2 ≤ k := by omega
      rw [show (A 2 - k).toNat = 0 by omega]
      have h := xw_top (hd := [8]) 9 xD6_ok xc_X12_countReads xa_X12_countReads (t := 8) rfl h
      simp (maxDischargeDepth := 12) -implicitDefEqProofs [vb_X12_countReads_0, vb_X12_countReads_8, vb_X12_countReads_36, vb_X12_countReads_40, vb_X12_countReads_54, vb_X12_countReads_55, vb_X12_countReads_63, xI_0, xI_1, xI_3, xI_6, xI_7, xI_14, xI_36, xI_38, xI_39, xI_44, xI_46, xI_49, xI_51, xI_61, xI_62, xw_X12_countReads_0, xw_X12_countReads_8, xw_X12_countReads_36, xw_X12_countReads_40, xw_X12_countReads_54, xw_X12_countReads_55, xw_X12_countReads_63, zw_lit, xB_c, xB_s, xB_n, i1_c, j2_c, k1_c, jJ_e, xlg, xls, xla, xpd, ppush, zw_m1, zw_m2, zw_m3, gf_12_0, gf_12_20, tg_12_0, tg_12_20, gv_590_0, gv_590_20, xD1, xD2, xD3, xD4, xD5, xD6, xb1_0, hA, c, c'] at h
      exact h
set_option maxRecDepth 100000 in
theorem lp_cr3 (A : Int → Int) (hB : MB A) (H : PH) (hA : H 591 = A) (hR : ∀ x, 0 ≤ x → x < A 2 → H 600 x = rdL A x) {E : xE} {res : xR} : ∀ (n : Nat) (k v : Int), 0 ≤ k → k ≤ A 2 → 0 ≤ v → v ≤ k → RUN E res n kd_X12_countReads (zget kd_X12_countReads 8) 8 [590, (-3), v, k] [] H → REPR E res (some (0, fdS (fun k => if min 0 (rdL A k) = (-3) then 1 else 0) (A 2 - k).toNat k v)) H := by
  intro n
  induction n using Nat.strongRecOn with
  | _ n ih =>
    intro k v k0 k1 v0 v1 h
    have a2 := hB.2.2.1
    have z1 : zw (k + 1) = k + 1 := zw_lit (by omega) (by omega)
    have zv : zw (v + 1) = v + 1 := zw_lit (by omega) (by omega)
    have zv0 : zw (v + 0) = v := by rw [Int.add_zero]; exact zw_lit (by omega) (by omega)
    have zv1 : zw v = v := zw_lit (by omega) (by omega)
    by_cases c : k < A 2
    · have c' : ¬ A 2 ≤ k := by omega
      have st : (A 2 - k).toNat = (A 2 - (k + 1)).toNat + 1 := by omega
      have e := hR k k0 c
      rw [st]
      unfold fdS
      by_cases q : rdL A k = -3
      · have q' : ¬ (rdL A k < -3 ∨ -3 < rdL A k) := by omega
        have h := xw_top (hd := [8]) 9 xD6_ok xc_X12_countReads xa_X12_countReads (t := 8) rfl h
        simp (maxDischargeDepth := 12) -implicitDefEqProofs [vb_X12_countReads_0, vb_X12_countReads_8, vb_X12_countReads_36, vb_X12_countReads_40, vb_X12_countReads_54, vb_X12_countReads_55, vb_X12_countReads_63, xI_0, xI_1, xI_3, xI_6, xI_7, xI_14, xI_36, xI_38, xI_39, xI_44, xI_46, xI_49, xI_51, xI_61, xI_62, xw_X12_countReads_0, xw_X12_countReads_8, xw_X12_countReads_36, xw_X12_countReads_40, xw_X12_countReads_54, xw_X12_countReads_55, xw_X12_countReads_63, zw_lit, xB_c, xB_s, xB_n, i1_c, j2_c, k1_c, jJ_e, xlg, xls, xla, xpd, ppush, zw_m1, zw_m2, zw_m3, gf_12_0, gf_12_20, tg_12_0, tg_12_20, gv_590_0, gv_590_20, xD1, xD2, xD3, xD4, xD5, xD6, xb1_0, hA, c, c', e, q, q', z1, zv, zv0, zv1] at h
        obtain ⟨m, hm, h⟩ := h
        rw [if_pos (show min 0 (rdL A k) = (-3) by omega)]
        exact ih m hm (k + 1) _ (by omega) (by omega) (by omega) (by omega) h
      · have q' : (rdL A k < -3 ∨ -3 < rdL A k) := by omega
        have h := xw_top (hd := [8]) 9 xD6_ok xc_X12_countReads xa_X12_countReads (t := 8) rfl h
        simp (maxDischargeDepth := 12) -implicitDefEqProofs [vb_X12_countReads_0, vb_X12_countReads_8, vb_X12_countReads_36, vb_X12_countReads_40, vb_X12_countReads_54, vb_X12_countReads_55, vb_X12_countReads_63, xI_0, xI_1, xI_3, xI_6, xI_7, xI_14, xI_36, xI_38, xI_39, xI_44, xI_46, xI_49, xI_51, xI_61, xI_62, xw_X12_countReads_0, xw_X12_countReads_8, xw_X12_countReads_36, xw_X12_countReads_40, xw_X12_countReads_54, xw_X12_countReads_55, xw_X12_countReads_63, zw_lit, xB_c, xB_s, xB_n, i1_c, j2_c, k1_c, jJ_e, xlg, xls, xla, xpd, ppush, zw_m1, zw_m2, zw_m3, gf_12_0, gf_12_20, tg_12_0, tg_12_20, gv_590_0, gv_590_20, xD1, xD2, xD3, xD4, xD5, xD6, xb1_0, hA, c, c', e, q, q', z1, zv, zv0, zv1] at h
        obtain ⟨m, hm, h⟩ := h
        rw [if_neg (show ¬ min 0 (rdL A k) = (-3) by omega), Int.add_zero]
        exact ih m hm (k + 1) _ (by omega) (by omega) (by omega) (by omega) h
    · have c' : A 2 ≤ k := by omega
      rw [show (A 2 - k).toNat = 0 by omega]
      have h := xw_top (hd := [8]) 9 xD6_ok xc_X12_countReads xa_X12_countReads (t := 8) rfl h
      simp (maxDischargeDepth := 12) -implicitDefEqProofs [vb_X12_countReads_0, vb_X12_countReads_8, vb_X12_countReads_36, vb_X12_countReads_40, vb_X12_countReads_54, vb_X12_countReads_55, vb_X12_countReads_63, xI_0, xI_1, xI_3, xI_6, xI_7, xI_14, xI_36, xI_38, xI_39, xI_44, xI_46, xI_49, xI_51, xI_61, xI_62, xw_X12_countReads_0, xw_X12_countReads_8, xw_X12_countReads_36, xw_X12_countReads_40, xw_X12_countReads_54, xw_X12_countReads_55, xw_X12_countReads_63, zw_lit, xB_c, xB_s, xB_n, i1_c, j2_c, k1_c, jJ_e, xlg, xls, xla, xpd, ppush, zw_m1, zw_m2, zw_m3, gf_12_0, gf_12_20, tg_12_0, tg_12_20, gv_590_0, gv_590_20, xD1, xD2, xD3, xD4, xD5, xD6, xb1_0, hA, c, c'] at h
      exact h
set_option maxRecDepth 100000 in
theorem sp_X12_countReads0 (H : PH) (hB : MB (H 591)) (hL : ML (H 591)) : SPEC 209 [(2, 590), (0, 0)] H (fun r H' => r = some (0, cnQ (H 591) (0)) ∧ MQs H H') := by
  intro E n res h
  have h := call_runP 4 vm_X12_countReads h
  have h := xw_top (hd := [8]) 9 xD6_ok xc_X12_countReads xa_X12_countReads (t := 0) rfl h
  simp (maxDischargeDepth := 12) -implicitDefEqProofs [vb_X12_countReads_0, vb_X12_countReads_8, vb_X12_countReads_36, vb_X12_countReads_40, vb_X12_countReads_54, vb_X12_countReads_55, vb_X12_countReads_63, xI_0, xI_1, xI_3, xI_6, xI_7, xI_14, xI_36, xI_38, xI_39, xI_44, xI_46, xI_49, xI_51, xI_61, xI_62, xw_X12_countReads_0, xw_X12_countReads_8, xw_X12_countReads_36, xw_X12_countReads_40, xw_X12_countReads_54, xw_X12_countReads_55, xw_X12_countReads_63, zw_lit, xB_c, xB_s, xB_n, i1_c, j2_c, k1_c, jJ_e, xlg, xls, xla, xpd, ppush, zw_m1, zw_m2, zw_m3, gf_12_0, gf_12_20, tg_12_0, tg_12_20, gv_590_0, gv_590_20, xD1, xD2, xD3, xD4, xD5, xD6, xb1_0] at h
  obtain ⟨r, H1, ⟨rfl, lr, sc⟩, g⟩ := xc_use h (sp_X12_layReads H hB hL)
  have eA : H1 591 = H 591 := sc.1 591 (by decide) (by decide)
  simp (maxDischargeDepth := 12) -implicitDefEqProofs [vb_X12_countReads_0, vb_X12_countReads_8, vb_X12_countReads_36, vb_X12_countReads_40, vb_X12_countReads_54, vb_X12_countReads_55, vb_X12_countReads_63, xI_0, xI_1, xI_3, xI_6, xI_7, xI_14, xI_36, xI_38, xI_39, xI_44, xI_46, xI_49, xI_51, xI_61, xI_62, xw_X12_countReads_0, xw_X12_countReads_8, xw_X12_countReads_36, xw_X12_countReads_40, xw_X12_countReads_54, xw_X12_countReads_55, xw_X12_countReads_63, zw_lit, xB_c, xB_s, xB_n, i1_c, j2_c, k1_c, jJ_e, xlg, xls, xla, xpd, ppush, zw_m1, zw_m2, zw_m3, gf_12_0, gf_12_20, tg_12_0, tg_12_20, gv_590_0, gv_590_20, xD1, xD2, xD3, xD4, xD5, xD6, xb1_0] at g
  obtain ⟨m, hm, g⟩ := g
  have g := lp_cr0 (H 591) hB H1 eA lr.2.2.1 m 0 0 (by omega) hB.2.2.1.1 (by omega) (by omega) g
  rw [Int.sub_zero] at g
  exact ⟨_, H1, g, rfl, MQs_SC sc (by decide) (by decide)⟩
set_option maxRecDepth 100000 in
theorem sp_X12_countReads2 (H : PH) (hB : MB (H 591)) (hL : ML (H 591)) : SPEC 209 [(2, 590), (0, -2)] H (fun r H' => r = some (0, cnQ (H 591) (-2)) ∧ MQs H H') := by
  intro E n res h
  have h := call_runP 4 vm_X12_countReads h
  have h := xw_top (hd := [8]) 9 xD6_ok xc_X12_countReads xa_X12_countReads (t := 0) rfl h
  simp (maxDischargeDepth := 12) -implicitDefEqProofs [vb_X12_countReads_0, vb_X12_countReads_8, vb_X12_countReads_36, vb_X12_countReads_40, vb_X12_countReads_54, vb_X12_countReads_55, vb_X12_countReads_63, xI_0, xI_1, xI_3, xI_6, xI_7, xI_14, xI_36, xI_38, xI_39, xI_44, xI_46, xI_49, xI_51, xI_61, xI_62, xw_X12_countReads_0, xw_X12_countReads_8, xw_X12_countReads_36, xw_X12_countReads_40, xw_X12_countReads_54, xw_X12_countReads_55, xw_X12_countReads_63, zw_lit, xB_c, xB_s, xB_n, i1_c, j2_c, k1_c, jJ_e, xlg, xls, xla, xpd, ppush, zw_m1, zw_m2, zw_m3, gf_12_0, gf_12_20, tg_12_0, tg_12_20, gv_590_0, gv_590_20, xD1, xD2, xD3, xD4, xD5, xD6, xb1_0] at h
  obtain ⟨r, H1, ⟨rfl, lr, sc⟩, g⟩ := xc_use h (sp_X12_layReads H hB hL)
  have eA : H1 591 = H 591 := sc.1 591 (by decide) (by decide)
  simp (maxDischargeDepth := 12) -implicitDefEqProofs [vb_X12_countReads_0, vb_X12_countReads_8, vb_X12_countReads_36, vb_X12_countReads_40, vb_X12_countReads_54, vb_X12_countReads_55, vb_X12_countReads_63, xI_0, xI_1, xI_3, xI_6, xI_7, xI_14, xI_36, xI_38, xI_39, xI_44, xI_46, xI_49, xI_51, xI_61, xI_62, xw_X12_countReads_0, xw_X12_countReads_8, xw_X12_countReads_36, xw_X12_countReads_40, xw_X12_countReads_54, xw_X12_countReads_55, xw_X12_countReads_63, zw_lit, xB_c, xB_s, xB_n, i1_c, j2_c, k1_c, jJ_e, xlg, xls, xla, xpd, ppush, zw_m1, zw_m2, zw_m3, gf_12_0, gf_12_20, tg_12_0, tg_12_20, gv_590_0, gv_590_20, xD1, xD2, xD3, xD4, xD5, xD6, xb1_0] at g
  obtain ⟨m, hm, g⟩ := g
  have g := lp_cr2 (H 591) hB H1 eA lr.2.2.1 m 0 0 (by omega) hB.2.2.1.1 (by omega) (by omega) g
  rw [Int.sub_zero] at g
  exact ⟨_, H1, g, rfl, MQs_SC sc (by decide) (by decide)⟩
set_option maxRecDepth 100000 in
theorem sp_X12_countReads3 (H : PH) (hB : MB (H 591)) (hL : ML (H 591)) : SPEC 209 [(2, 590), (0, -3)] H (fun r H' => r = some (0, cnQ (H 591) (-3)) ∧ MQs H H') := by
  intro E n res h
  have h := call_runP 4 vm_X12_countReads h
  have h := xw_top (hd := [8]) 9 xD6_ok xc_X12_countReads xa_X12_countReads (t := 0) rfl h
  simp (maxDischargeDepth := 12) -implicitDefEqProofs [vb_X12_countReads_0, vb_X12_countReads_8, vb_X12_countReads_36, vb_X12_countReads_40, vb_X12_countReads_54, vb_X12_countReads_55, vb_X12_countReads_63, xI_0, xI_1, xI_3, xI_6, xI_7, xI_14, xI_36, xI_38, xI_39, xI_44, xI_46, xI_49, xI_51, xI_61, xI_62, xw_X12_countReads_0, xw_X12_countReads_8, xw_X12_countReads_36, xw_X12_countReads_40, xw_X12_countReads_54, xw_X12_countReads_55, xw_X12_countReads_63, zw_lit, xB_c, xB_s, xB_n, i1_c, j2_c, k1_c, jJ_e, xlg, xls, xla, xpd, ppush, zw_m1, zw_m2, zw_m3, gf_12_0, gf_12_20, tg_12_0, tg_12_20, gv_590_0, gv_590_20, xD1, xD2, xD3, xD4, xD5, xD6, xb1_0] at h
  obtain ⟨r, H1, ⟨rfl, lr, sc⟩, g⟩ := xc_use h (sp_X12_layReads H hB hL)
  have eA : H1 591 = H 591 := sc.1 591 (by decide) (by decide)
  simp (maxDischargeDepth := 12) -implicitDefEqProofs [vb_X12_countReads_0, vb_X12_countReads_8, vb_X12_countReads_36, vb_X12_countReads_40, vb_X12_countReads_54, vb_X12_countReads_55, vb_X12_countReads_63, xI_0, xI_1, xI_3, xI_6, xI_7, xI_14, xI_36, xI_38, xI_39, xI_44, xI_46, xI_49, xI_51, xI_61, xI_62, xw_X12_countReads_0, xw_X12_countReads_8, xw_X12_countReads_36, xw_X12_countReads_40, xw_X12_countReads_54, xw_X12_countReads_55, xw_X12_countReads_63, zw_lit, xB_c, xB_s, xB_n, i1_c, j2_c, k1_c, jJ_e, xlg, xls, xla, xpd, ppush, zw_m1, zw_m2, zw_m3, gf_12_0, gf_12_20, tg_12_0, tg_12_20, gv_590_0, gv_590_20, xD1, xD2, xD3, xD4, xD5, xD6, xb1_0] at g
  obtain ⟨m, hm, g⟩ := g
  have g := lp_cr3 (H 591) hB H1 eA lr.2.2.1 m 0 0 (by omega) hB.2.2.1.1 (by omega) (by omega) g
  rw [Int.sub_zero] at g
  exact ⟨_, H1, g, rfl, MQs_SC sc (by decide) (by decide)⟩
set_option maxRecDepth 100000 in
theorem sp_m_is (w sz n : Int) (H : PH) (ok : OKR (H 591)) (h2 : H 590 2 = n) (h4 : H 590 4 = sz) : SPEC 210 [(2, 590), (0, w)] H (fun r H' => r = some (0, isQ (H 591) n sz w) ∧ MQs H H') := by
  intro E n' res h
  by_cases qw : 0 ≤ w ∧ w ≤ 13
  · by_cases c : w = 0
    · have sw := sw_X12_is_0
      have h := call_runP 2 vm_X12_is h
      have h := xw_top (hd := []) 18 xD6_ok xc_X12_is xa_X12_is (t := 0) rfl h
      simp (maxDischargeDepth := 12) -implicitDefEqProofs [vb_X12_is_0, vb_X12_is_72, vb_X12_is_79, vb_X12_is_86, vb_X12_is_93, vb_X12_is_102, vb_X12_is_109, vb_X12_is_116, vb_X12_is_123, vb_X12_is_128, vb_X12_is_133, vb_X12_is_139, vb_X12_is_146, vb_X12_is_153, vb_X12_is_161, vb_X12_is_169, xI_0, xI_1, xI_7, xI_8, xI_49, xI_51, xI_61, xI_62, xI_110, xw_X12_is_0, xw_X12_is_72, xw_X12_is_79, xw_X12_is_86, xw_X12_is_93, xw_X12_is_102, xw_X12_is_109, xw_X12_is_116, xw_X12_is_123, xw_X12_is_128, xw_X12_is_133, xw_X12_is_139, xw_X12_is_146, xw_X12_is_153, xw_X12_is_161, xw_X12_is_169, zw_lit, xB_c, xB_s, xB_n, i1_c, j2_c, k1_c, jJ_e, xlg, xls, xla, xpd, ppush, zw_m1, zw_m2, zw_m3, gf_12_0, gf_12_2, gf_12_4, gf_12_26, tg_12_0, tg_12_2, tg_12_26, tg_12_4, gv_590_0, gv_590_2, gv_590_4, gv_590_26, xD1, xD2, xD3, xD4, xD5, xD6, xb1_0, c, sw] at h
      exact ⟨_, H, h, by rw [c]; rfl, MQs_refl⟩
    by_cases c : w = 1
    · have sw := sw_X12_is_1
      have h := call_runP 2 vm_X12_is h
      have h := xw_top (hd := []) 18 xD6_ok xc_X12_is xa_X12_is (t := 0) rfl h
      simp (maxDischargeDepth := 12) -implicitDefEqProofs [vb_X12_is_0, vb_X12_is_72, vb_X12_is_79, vb_X12_is_86, vb_X12_is_93, vb_X12_is_102, vb_X12_is_109, vb_X12_is_116, vb_X12_is_123, vb_X12_is_128, vb_X12_is_133, vb_X12_is_139, vb_X12_is_146, vb_X12_is_153, vb_X12_is_161, vb_X12_is_169, xI_0, xI_1, xI_7, xI_8, xI_49, xI_51, xI_61, xI_62, xI_110, xw_X12_is_0, xw_X12_is_72, xw_X12_is_79, xw_X12_is_86, xw_X12_is_93, xw_X12_is_102, xw_X12_is_109, xw_X12_is_116, xw_X12_is_123, xw_X12_is_128, xw_X12_is_133, xw_X12_is_139, xw_X12_is_146, xw_X12_is_153, xw_X12_is_161, xw_X12_is_169, zw_lit, xB_c, xB_s, xB_n, i1_c, j2_c, k1_c, jJ_e, xlg, xls, xla, xpd, ppush, zw_m1, zw_m2, zw_m3, gf_12_0, gf_12_2, gf_12_4, gf_12_26, tg_12_0, tg_12_2, tg_12_26, tg_12_4, gv_590_0, gv_590_2, gv_590_4, gv_590_26, xD1, xD2, xD3, xD4, xD5, xD6, xb1_0, c, sw] at h
      exact ⟨_, H, h, by rw [c]; rfl, MQs_refl⟩
    by_cases c : w = 2
    · have sw := sw_X12_is_2
      have h := call_runP 2 vm_X12_is h
      have h := xw_top (hd := []) 18 xD6_ok xc_X12_is xa_X12_is (t := 0) rfl h
      simp (maxDischargeDepth := 12) -implicitDefEqProofs [vb_X12_is_0, vb_X12_is_72, vb_X12_is_79, vb_X12_is_86, vb_X12_is_93, vb_X12_is_102, vb_X12_is_109, vb_X12_is_116, vb_X12_is_123, vb_X12_is_128, vb_X12_is_133, vb_X12_is_139, vb_X12_is_146, vb_X12_is_153, vb_X12_is_161, vb_X12_is_169, xI_0, xI_1, xI_7, xI_8, xI_49, xI_51, xI_61, xI_62, xI_110, xw_X12_is_0, xw_X12_is_72, xw_X12_is_79, xw_X12_is_86, xw_X12_is_93, xw_X12_is_102, xw_X12_is_109, xw_X12_is_116, xw_X12_is_123, xw_X12_is_128, xw_X12_is_133, xw_X12_is_139, xw_X12_is_146, xw_X12_is_153, xw_X12_is_161, xw_X12_is_169, zw_lit, xB_c, xB_s, xB_n, i1_c, j2_c, k1_c, jJ_e, xlg, xls, xla, xpd, ppush, zw_m1, zw_m2, zw_m3, gf_12_0, gf_12_2, gf_12_4, gf_12_26, tg_12_0, tg_12_2, tg_12_26, tg_12_4, gv_590_0, gv_590_2, gv_590_4, gv_590_26, xD1, xD2, xD3, xD4, xD5, xD6, xb1_0, c, sw] at h
      exact ⟨_, H, h, by rw [c]; rfl, MQs_refl⟩
    by_cases c : w = 4
    · have sw := sw_X12_is_4
      have h := call_runP 2 vm_X12_is h
      have h := xw_top (hd := []) 18 xD6_ok xc_X12_is xa_X12_is (t := 0) rfl h
      simp (maxDischargeDepth := 12) -implicitDefEqProofs [vb_X12_is_0, vb_X12_is_72, vb_X12_is_79, vb_X12_is_86, vb_X12_is_93, vb_X12_is_102, vb_X12_is_109, vb_X12_is_116, vb_X12_is_123, vb_X12_is_128, vb_X12_is_133, vb_X12_is_139, vb_X12_is_146, vb_X12_is_153, vb_X12_is_161, vb_X12_is_169, xI_0, xI_1, xI_7, xI_8, xI_49, xI_51, xI_61, xI_62, xI_110, xw_X12_is_0, xw_X12_is_72, xw_X12_is_79, xw_X12_is_86, xw_X12_is_93, xw_X12_is_102, xw_X12_is_109, xw_X12_is_116, xw_X12_is_123, xw_X12_is_128, xw_X12_is_133, xw_X12_is_139, xw_X12_is_146, xw_X12_is_153, xw_X12_is_161, xw_X12_is_169, zw_lit, xB_c, xB_s, xB_n, i1_c, j2_c, k1_c, jJ_e, xlg, xls, xla, xpd, ppush, zw_m1, zw_m2, zw_m3, gf_12_0, gf_12_2, gf_12_4, gf_12_26, tg_12_0, tg_12_2, tg_12_26, tg_12_4, gv_590_0, gv_590_2, gv_590_4, gv_590_26, xD1, xD2, xD3, xD4, xD5, xD6, xb1_0, c, sw] at h
      exact ⟨_, H, h, by rw [c]; rfl, MQs_refl⟩
    by_cases c : w = 5
    · have sw := sw_X12_is_5
      have h := call_runP 2 vm_X12_is h
      have h := xw_top (hd := []) 18 xD6_ok xc_X12_is xa_X12_is (t := 0) rfl h
      simp (maxDischargeDepth := 12) -implicitDefEqProofs [vb_X12_is_0, vb_X12_is_72, vb_X12_is_79, vb_X12_is_86, vb_X12_is_93, vb_X12_is_102, vb_X12_is_109, vb_X12_is_116, vb_X12_is_123, vb_X12_is_128, vb_X12_is_133, vb_X12_is_139, vb_X12_is_146, vb_X12_is_153, vb_X12_is_161, vb_X12_is_169, xI_0, xI_1, xI_7, xI_8, xI_49, xI_51, xI_61, xI_62, xI_110, xw_X12_is_0, xw_X12_is_72, xw_X12_is_79, xw_X12_is_86, xw_X12_is_93, xw_X12_is_102, xw_X12_is_109, xw_X12_is_116, xw_X12_is_123, xw_X12_is_128, xw_X12_is_133, xw_X12_is_139, xw_X12_is_146, xw_X12_is_153, xw_X12_is_161, xw_X12_is_169, zw_lit, xB_c, xB_s, xB_n, i1_c, j2_c, k1_c, jJ_e, xlg, xls, xla, xpd, ppush, zw_m1, zw_m2, zw_m3, gf_12_0, gf_12_2, gf_12_4, gf_12_26, tg_12_0, tg_12_2, tg_12_26, tg_12_4, gv_590_0, gv_590_2, gv_590_4, gv_590_26, xD1, xD2, xD3, xD4, xD5, xD6, xb1_0, c, sw] at h
      exact ⟨_, H, h, by rw [c]; rfl, MQs_refl⟩
    by_cases c : w = 6
    · have sw := sw_X12_is_6
      have h := call_runP 2 vm_X12_is h
      have h := xw_top (hd := []) 18 xD6_ok xc_X12_is xa_X12_is (t := 0) rfl h
      simp (maxDischargeDepth := 12) -implicitDefEqProofs [vb_X12_is_0, vb_X12_is_72, vb_X12_is_79, vb_X12_is_86, vb_X12_is_93, vb_X12_is_102, vb_X12_is_109, vb_X12_is_116, vb_X12_is_123, vb_X12_is_128, vb_X12_is_133, vb_X12_is_139, vb_X12_is_146, vb_X12_is_153, vb_X12_is_161, vb_X12_is_169, xI_0, xI_1, xI_7, xI_8, xI_49, xI_51, xI_61, xI_62, xI_110, xw_X12_is_0, xw_X12_is_72, xw_X12_is_79, xw_X12_is_86, xw_X12_is_93, xw_X12_is_102, xw_X12_is_109, xw_X12_is_116, xw_X12_is_123, xw_X12_is_128, xw_X12_is_133, xw_X12_is_139, xw_X12_is_146, xw_X12_is_153, xw_X12_is_161, xw_X12_is_169, zw_lit, xB_c, xB_s, xB_n, i1_c, j2_c, k1_c, jJ_e, xlg, xls, xla, xpd, ppush, zw_m1, zw_m2, zw_m3, gf_12_0, gf_12_2, gf_12_4, gf_12_26, tg_12_0, tg_12_2, tg_12_26, tg_12_4, gv_590_0, gv_590_2, gv_590_4, gv_590_26, xD1, xD2, xD3, xD4, xD5, xD6, xb1_0, c, sw] at h
      exact ⟨_, H, h, by rw [c]; rfl, MQs_refl⟩
    by_cases c : w = 7
    · have sw := sw_X12_is_7
      have h := call_runP 2 vm_X12_is h
      have h := xw_top (hd := []) 18 xD6_ok xc_X12_is xa_X12_is (t := 0) rfl h
      simp (maxDischargeDepth := 12) -implicitDefEqProofs [vb_X12_is_0, vb_X12_is_72, vb_X12_is_79, vb_X12_is_86, vb_X12_is_93, vb_X12_is_102, vb_X12_is_109, vb_X12_is_116, vb_X12_is_123, vb_X12_is_128, vb_X12_is_133, vb_X12_is_139, vb_X12_is_146, vb_X12_is_153, vb_X12_is_161, vb_X12_is_169, xI_0, xI_1, xI_7, xI_8, xI_49, xI_51, xI_61, xI_62, xI_110, xw_X12_is_0, xw_X12_is_72, xw_X12_is_79, xw_X12_is_86, xw_X12_is_93, xw_X12_is_102, xw_X12_is_109, xw_X12_is_116, xw_X12_is_123, xw_X12_is_128, xw_X12_is_133, xw_X12_is_139, xw_X12_is_146, xw_X12_is_153, xw_X12_is_161, xw_X12_is_169, zw_lit, xB_c, xB_s, xB_n, i1_c, j2_c, k1_c, jJ_e, xlg, xls, xla, xpd, ppush, zw_m1, zw_m2, zw_m3, gf_12_0, gf_12_2, gf_12_4, gf_12_26, tg_12_0, tg_12_2, tg_12_26, tg_12_4, gv_590_0, gv_590_2, gv_590_4, gv_590_26, xD1, xD2, xD3, xD4, xD5, xD6, xb1_0, c, sw, h2] at h
      exact ⟨_, H, h, by rw [c]; rfl, MQs_refl⟩
    by_cases c : w = 8
    · have sw := sw_X12_is_8
      have h := call_runP 2 vm_X12_is h
      have h := xw_top (hd := []) 18 xD6_ok xc_X12_is xa_X12_is (t := 0) rfl h
      simp (maxDischargeDepth := 12) -implicitDefEqProofs [vb_X12_is_0, vb_X12_is_72, vb_X12_is_79, vb_X12_is_86, vb_X12_is_93, vb_X12_is_102, vb_X12_is_109, vb_X12_is_116, vb_X12_is_123, vb_X12_is_128, vb_X12_is_133, vb_X12_is_139, vb_X12_is_146, vb_X12_is_153, vb_X12_is_161, vb_X12_is_169, xI_0, xI_1, xI_7, xI_8, xI_49, xI_51, xI_61, xI_62, xI_110, xw_X12_is_0, xw_X12_is_72, xw_X12_is_79, xw_X12_is_86, xw_X12_is_93, xw_X12_is_102, xw_X12_is_109, xw_X12_is_116, xw_X12_is_123, xw_X12_is_128, xw_X12_is_133, xw_X12_is_139, xw_X12_is_146, xw_X12_is_153, xw_X12_is_161, xw_X12_is_169, zw_lit, xB_c, xB_s, xB_n, i1_c, j2_c, k1_c, jJ_e, xlg, xls, xla, xpd, ppush, zw_m1, zw_m2, zw_m3, gf_12_0, gf_12_2, gf_12_4, gf_12_26, tg_12_0, tg_12_2, tg_12_26, tg_12_4, gv_590_0, gv_590_2, gv_590_4, gv_590_26, xD1, xD2, xD3, xD4, xD5, xD6, xb1_0, c, sw, h4] at h
      exact ⟨_, H, h, by rw [c]; rfl, MQs_refl⟩
    by_cases c : w = 12
    · have sw := sw_X12_is_12
      have h := call_runP 2 vm_X12_is h
      have h := xw_top (hd := []) 18 xD6_ok xc_X12_is xa_X12_is (t := 0) rfl h
      simp (maxDischargeDepth := 12) -implicitDefEqProofs [vb_X12_is_0, vb_X12_is_72, vb_X12_is_79, vb_X12_is_86, vb_X12_is_93, vb_X12_is_102, vb_X12_is_109, vb_X12_is_116, vb_X12_is_123, vb_X12_is_128, vb_X12_is_133, vb_X12_is_139, vb_X12_is_146, vb_X12_is_153, vb_X12_is_161, vb_X12_is_169, xI_0, xI_1, xI_7, xI_8, xI_49, xI_51, xI_61, xI_62, xI_110, xw_X12_is_0, xw_X12_is_72, xw_X12_is_79, xw_X12_is_86, xw_X12_is_93, xw_X12_is_102, xw_X12_is_109, xw_X12_is_116, xw_X12_is_123, xw_X12_is_128, xw_X12_is_133, xw_X12_is_139, xw_X12_is_146, xw_X12_is_153, xw_X12_is_161, xw_X12_is_169, zw_lit, xB_c, xB_s, xB_n, i1_c, j2_c, k1_c, jJ_e, xlg, xls, xla, xpd, ppush, zw_m1, zw_m2, zw_m3, gf_12_0, gf_12_2, gf_12_4, gf_12_26, tg_12_0, tg_12_2, tg_12_26, tg_12_4, gv_590_0, gv_590_2, gv_590_4, gv_590_26, xD1, xD2, xD3, xD4, xD5, xD6, xb1_0, c, sw] at h
      exact ⟨_, H, h, by rw [c]; rfl, MQs_refl⟩
    by_cases c : w = 13
    · have sw := sw_X12_is_13
      have h := call_runP 2 vm_X12_is h
      have h := xw_top (hd := []) 18 xD6_ok xc_X12_is xa_X12_is (t := 0) rfl h
      simp (maxDischargeDepth := 12) -implicitDefEqProofs [vb_X12_is_0, vb_X12_is_72, vb_X12_is_79, vb_X12_is_86, vb_X12_is_93, vb_X12_is_102, vb_X12_is_109, vb_X12_is_116, vb_X12_is_123, vb_X12_is_128, vb_X12_is_133, vb_X12_is_139, vb_X12_is_146, vb_X12_is_153, vb_X12_is_161, vb_X12_is_169, xI_0, xI_1, xI_7, xI_8, xI_49, xI_51, xI_61, xI_62, xI_110, xw_X12_is_0, xw_X12_is_72, xw_X12_is_79, xw_X12_is_86, xw_X12_is_93, xw_X12_is_102, xw_X12_is_109, xw_X12_is_116, xw_X12_is_123, xw_X12_is_128, xw_X12_is_133, xw_X12_is_139, xw_X12_is_146, xw_X12_is_153, xw_X12_is_161, xw_X12_is_169, zw_lit, xB_c, xB_s, xB_n, i1_c, j2_c, k1_c, jJ_e, xlg, xls, xla, xpd, ppush, zw_m1, zw_m2, zw_m3, gf_12_0, gf_12_2, gf_12_4, gf_12_26, tg_12_0, tg_12_2, tg_12_26, tg_12_4, gv_590_0, gv_590_2, gv_590_4, gv_590_26, xD1, xD2, xD3, xD4, xD5, xD6, xb1_0, c, sw] at h
      exact ⟨_, H, h, by rw [c]; rfl, MQs_refl⟩
    by_cases c : w = 9
    · have sw := sw_X12_is_9
      have h := call_runP 2 vm_X12_is h
      have h := xw_top (hd := []) 18 xD6_ok xc_X12_is xa_X12_is (t := 0) rfl h
      simp (maxDischargeDepth := 12) -implicitDefEqProofs [vb_X12_is_0, vb_X12_is_72, vb_X12_is_79, vb_X12_is_86, vb_X12_is_93, vb_X12_is_102, vb_X12_is_109, vb_X12_is_116, vb_X12_is_123, vb_X12_is_128, vb_X12_is_133, vb_X12_is_139, vb_X12_is_146, vb_X12_is_153, vb_X12_is_161, vb_X12_is_169, xI_0, xI_1, xI_7, xI_8, xI_49, xI_51, xI_61, xI_62, xI_110, xw_X12_is_0, xw_X12_is_72, xw_X12_is_79, xw_X12_is_86, xw_X12_is_93, xw_X12_is_102, xw_X12_is_109, xw_X12_is_116, xw_X12_is_123, xw_X12_is_128, xw_X12_is_133, xw_X12_is_139, xw_X12_is_146, xw_X12_is_153, xw_X12_is_161, xw_X12_is_169, zw_lit, xB_c, xB_s, xB_n, i1_c, j2_c, k1_c, jJ_e, xlg, xls, xla, xpd, ppush, zw_m1, zw_m2, zw_m3, gf_12_0, gf_12_2, gf_12_4, gf_12_26, tg_12_0, tg_12_2, tg_12_26, tg_12_4, gv_590_0, gv_590_2, gv_590_4, gv_590_26, xD1, xD2, xD3, xD4, xD5, xD6, xb1_0, c, sw] at h
      obtain ⟨r, H1, ⟨rfl, mq⟩, g⟩ := xc_use h (sp_X12_countReads0 H ok.1 ok.2.1)
      simp (maxDischargeDepth := 12) -implicitDefEqProofs [vb_X12_is_0, vb_X12_is_72, vb_X12_is_79, vb_X12_is_86, vb_X12_is_93, vb_X12_is_102, vb_X12_is_109, vb_X12_is_116, vb_X12_is_123, vb_X12_is_128, vb_X12_is_133, vb_X12_is_139, vb_X12_is_146, vb_X12_is_153, vb_X12_is_161, vb_X12_is_169, xI_0, xI_1, xI_7, xI_8, xI_49, xI_51, xI_61, xI_62, xI_110, xw_X12_is_0, xw_X12_is_72, xw_X12_is_79, xw_X12_is_86, xw_X12_is_93, xw_X12_is_102, xw_X12_is_109, xw_X12_is_116, xw_X12_is_123, xw_X12_is_128, xw_X12_is_133, xw_X12_is_139, xw_X12_is_146, xw_X12_is_153, xw_X12_is_161, xw_X12_is_169, zw_lit, xB_c, xB_s, xB_n, i1_c, j2_c, k1_c, jJ_e, xlg, xls, xla, xpd, ppush, zw_m1, zw_m2, zw_m3, gf_12_0, gf_12_2, gf_12_4, gf_12_26, tg_12_0, tg_12_2, tg_12_26, tg_12_4, gv_590_0, gv_590_2, gv_590_4, gv_590_26, xD1, xD2, xD3, xD4, xD5, xD6, xb1_0] at g
      exact ⟨_, H1, g, by rw [c]; rfl, mq⟩
    by_cases c : w = 10
    · have sw := sw_X12_is_10
      have h := call_runP 2 vm_X12_is h
      have h := xw_top (hd := []) 18 xD6_ok xc_X12_is xa_X12_is (t := 0) rfl h
      simp (maxDischargeDepth := 12) -implicitDefEqProofs [vb_X12_is_0, vb_X12_is_72, vb_X12_is_79, vb_X12_is_86, vb_X12_is_93, vb_X12_is_102, vb_X12_is_109, vb_X12_is_116, vb_X12_is_123, vb_X12_is_128, vb_X12_is_133, vb_X12_is_139, vb_X12_is_146, vb_X12_is_153, vb_X12_is_161, vb_X12_is_169, xI_0, xI_1, xI_7, xI_8, xI_49, xI_51, xI_61, xI_62, xI_110, xw_X12_is_0, xw_X12_is_72, xw_X12_is_79, xw_X12_is_86, xw_X12_is_93, xw_X12_is_102, xw_X12_is_109, xw_X12_is_116, xw_X12_is_123, xw_X12_is_128, xw_X12_is_133, xw_X12_is_139, xw_X12_is_146, xw_X12_is_153, xw_X12_is_161, xw_X12_is_169, zw_lit, xB_c, xB_s, xB_n, i1_c, j2_c, k1_c, jJ_e, xlg, xls, xla, xpd, ppush, zw_m1, zw_m2, zw_m3, gf_12_0, gf_12_2, gf_12_4, gf_12_26, tg_12_0, tg_12_2, tg_12_26, tg_12_4, gv_590_0, gv_590_2, gv_590_4, gv_590_26, xD1, xD2, xD3, xD4, xD5, xD6, xb1_0, c, sw] at h
      obtain ⟨r, H1, ⟨rfl, mq⟩, g⟩ := xc_use h (sp_X12_countReads2 H ok.1 ok.2.1)
      simp (maxDischargeDepth := 12) -implicitDefEqProofs [vb_X12_is_0, vb_X12_is_72, vb_X12_is_79, vb_X12_is_86, vb_X12_is_93, vb_X12_is_102, vb_X12_is_109, vb_X12_is_116, vb_X12_is_123, vb_X12_is_128, vb_X12_is_133, vb_X12_is_139, vb_X12_is_146, vb_X12_is_153, vb_X12_is_161, vb_X12_is_169, xI_0, xI_1, xI_7, xI_8, xI_49, xI_51, xI_61, xI_62, xI_110, xw_X12_is_0, xw_X12_is_72, xw_X12_is_79, xw_X12_is_86, xw_X12_is_93, xw_X12_is_102, xw_X12_is_109, xw_X12_is_116, xw_X12_is_123, xw_X12_is_128, xw_X12_is_133, xw_X12_is_139, xw_X12_is_146, xw_X12_is_153, xw_X12_is_161, xw_X12_is_169, zw_lit, xB_c, xB_s, xB_n, i1_c, j2_c, k1_c, jJ_e, xlg, xls, xla, xpd, ppush, zw_m1, zw_m2, zw_m3, gf_12_0, gf_12_2, gf_12_4, gf_12_26, tg_12_0, tg_12_2, tg_12_26, tg_12_4, gv_590_0, gv_590_2, gv_590_4, gv_590_26, xD1, xD2, xD3, xD4, xD5, xD6, xb1_0] at g
      exact ⟨_, H1, g, by rw [c]; rfl, mq⟩
    by_cases c : w = 11
    · have sw := sw_X12_is_11
      have h := call_runP 2 vm_X12_is h
      have h := xw_top (hd := []) 18 xD6_ok xc_X12_is xa_X12_is (t := 0) rfl h
      simp (maxDischargeDepth := 12) -implicitDefEqProofs [vb_X12_is_0, vb_X12_is_72, vb_X12_is_79, vb_X12_is_86, vb_X12_is_93, vb_X12_is_102, vb_X12_is_109, vb_X12_is_116, vb_X12_is_123, vb_X12_is_128, vb_X12_is_133, vb_X12_is_139, vb_X12_is_146, vb_X12_is_153, vb_X12_is_161, vb_X12_is_169, xI_0, xI_1, xI_7, xI_8, xI_49, xI_51, xI_61, xI_62, xI_110, xw_X12_is_0, xw_X12_is_72, xw_X12_is_79, xw_X12_is_86, xw_X12_is_93, xw_X12_is_102, xw_X12_is_109, xw_X12_is_116, xw_X12_is_123, xw_X12_is_128, xw_X12_is_133, xw_X12_is_139, xw_X12_is_146, xw_X12_is_153, xw_X12_is_161, xw_X12_is_169, zw_lit, xB_c, xB_s, xB_n, i1_c, j2_c, k1_c, jJ_e, xlg, xls, xla, xpd, ppush, zw_m1, zw_m2, zw_m3, gf_12_0, gf_12_2, gf_12_4, gf_12_26, tg_12_0, tg_12_2, tg_12_26, tg_12_4, gv_590_0, gv_590_2, gv_590_4, gv_590_26, xD1, xD2, xD3, xD4, xD5, xD6, xb1_0, c, sw] at h
      obtain ⟨r, H1, ⟨rfl, mq⟩, g⟩ := xc_use h (sp_X12_countReads3 H ok.1 ok.2.1)
      simp (maxDischargeDepth := 12) -implicitDefEqProofs [vb_X12_is_0, vb_X12_is_72, vb_X12_is_79, vb_X12_is_86, vb_X12_is_93, vb_X12_is_102, vb_X12_is_109, vb_X12_is_116, vb_X12_is_123, vb_X12_is_128, vb_X12_is_133, vb_X12_is_139, vb_X12_is_146, vb_X12_is_153, vb_X12_is_161, vb_X12_is_169, xI_0, xI_1, xI_7, xI_8, xI_49, xI_51, xI_61, xI_62, xI_110, xw_X12_is_0, xw_X12_is_72, xw_X12_is_79, xw_X12_is_86, xw_X12_is_93, xw_X12_is_102, xw_X12_is_109, xw_X12_is_116, xw_X12_is_123, xw_X12_is_128, xw_X12_is_133, xw_X12_is_139, xw_X12_is_146, xw_X12_is_153, xw_X12_is_161, xw_X12_is_169, zw_lit, xB_c, xB_s, xB_n, i1_c, j2_c, k1_c, jJ_e, xlg, xls, xla, xpd, ppush, zw_m1, zw_m2, zw_m3, gf_12_0, gf_12_2, gf_12_4, gf_12_26, tg_12_0, tg_12_2, tg_12_26, tg_12_4, gv_590_0, gv_590_2, gv_590_4, gv_590_26, xD1, xD2, xD3, xD4, xD5, xD6, xb1_0] at g
      exact ⟨_, H1, g, by rw [c]; rfl, mq⟩
    have c : w = 3 := by omega
    have sw := sw_X12_is_3
    have h := call_runP 2 vm_X12_is h
    have h := xw_top (hd := []) 18 xD6_ok xc_X12_is xa_X12_is (t := 0) rfl h
    simp (maxDischargeDepth := 12) -implicitDefEqProofs [vb_X12_is_0, vb_X12_is_72, vb_X12_is_79, vb_X12_is_86, vb_X12_is_93, vb_X12_is_102, vb_X12_is_109, vb_X12_is_116, vb_X12_is_123, vb_X12_is_128, vb_X12_is_133, vb_X12_is_139, vb_X12_is_146, vb_X12_is_153, vb_X12_is_161, vb_X12_is_169, xI_0, xI_1, xI_7, xI_8, xI_49, xI_51, xI_61, xI_62, xI_110, xw_X12_is_0, xw_X12_is_72, xw_X12_is_79, xw_X12_is_86, xw_X12_is_93, xw_X12_is_102, xw_X12_is_109, xw_X12_is_116, xw_X12_is_123, xw_X12_is_128, xw_X12_is_133, xw_X12_is_139, xw_X12_is_146, xw_X12_is_153, xw_X12_is_161, xw_X12_is_169, zw_lit, xB_c, xB_s, xB_n, i1_c, j2_c, k1_c, jJ_e, xlg, xls, xla, xpd, ppush, zw_m1, zw_m2, zw_m3, gf_12_0, gf_12_2, gf_12_4, gf_12_26, tg_12_0, tg_12_2, tg_12_26, tg_12_4, gv_590_0, gv_590_2, gv_590_4, gv_590_26, xD1, xD2, xD3, xD4, xD5, xD6, xb1_0, c, sw] at h
    obtain ⟨r, H1, ⟨rfl, lr, sc⟩, g⟩ := xc_use h (sp_X12_layReads H ok.1 ok.2.1)
    have e := lr.1.1
    simp (maxDischargeDepth := 12) -implicitDefEqProofs [vb_X12_is_0, vb_X12_is_72, vb_X12_is_79, vb_X12_is_86, vb_X12_is_93, vb_X12_is_102, vb_X12_is_109, vb_X12_is_116, vb_X12_is_123, vb_X12_is_128, vb_X12_is_133, vb_X12_is_139, vb_X12_is_146, vb_X12_is_153, vb_X12_is_161, vb_X12_is_169, xI_0, xI_1, xI_7, xI_8, xI_49, xI_51, xI_61, xI_62, xI_110, xw_X12_is_0, xw_X12_is_72, xw_X12_is_79, xw_X12_is_86, xw_X12_is_93, xw_X12_is_102, xw_X12_is_109, xw_X12_is_116, xw_X12_is_123, xw_X12_is_128, xw_X12_is_133, xw_X12_is_139, xw_X12_is_146, xw_X12_is_153, xw_X12_is_161, xw_X12_is_169, zw_lit, xB_c, xB_s, xB_n, i1_c, j2_c, k1_c, jJ_e, xlg, xls, xla, xpd, ppush, zw_m1, zw_m2, zw_m3, gf_12_0, gf_12_2, gf_12_4, gf_12_26, tg_12_0, tg_12_2, tg_12_26, tg_12_4, gv_590_0, gv_590_2, gv_590_4, gv_590_26, xD1, xD2, xD3, xD4, xD5, xD6, xb1_0, e] at g
    exact ⟨_, H1, g, by rw [c]; rfl, MQs_SC sc (by decide) (by decide)⟩
  · have sw := sw_X12_is_d (x := w) qw
    have h := call_runP 2 vm_X12_is h
    have h := xw_top (hd := []) 18 xD6_ok xc_X12_is xa_X12_is (t := 0) rfl h
    simp (maxDischargeDepth := 12) -implicitDefEqProofs [vb_X12_is_0, vb_X12_is_72, vb_X12_is_79, vb_X12_is_86, vb_X12_is_93, vb_X12_is_102, vb_X12_is_109, vb_X12_is_116, vb_X12_is_123, vb_X12_is_128, vb_X12_is_133, vb_X12_is_139, vb_X12_is_146, vb_X12_is_153, vb_X12_is_161, vb_X12_is_169, xI_0, xI_1, xI_7, xI_8, xI_49, xI_51, xI_61, xI_62, xI_110, xw_X12_is_0, xw_X12_is_72, xw_X12_is_79, xw_X12_is_86, xw_X12_is_93, xw_X12_is_102, xw_X12_is_109, xw_X12_is_116, xw_X12_is_123, xw_X12_is_128, xw_X12_is_133, xw_X12_is_139, xw_X12_is_146, xw_X12_is_153, xw_X12_is_161, xw_X12_is_169, zw_lit, xB_c, xB_s, xB_n, i1_c, j2_c, k1_c, jJ_e, xlg, xls, xla, xpd, ppush, zw_m1, zw_m2, zw_m3, gf_12_0, gf_12_2, gf_12_4, gf_12_26, tg_12_0, tg_12_2, tg_12_26, tg_12_4, gv_590_0, gv_590_2, gv_590_4, gv_590_26, xD1, xD2, xD3, xD4, xD5, xD6, xb1_0, sw] at h
    exact ⟨_, H, h, by unfold isQ; rw [if_neg qw], MQs_refl⟩
set_option maxRecDepth 100000 in
theorem lp_mpf (b nn e : Int) (A : Int → Int) (H : PH) (hA : H 591 = A) (hB : MB A) (hb : 0 ≤ b ∧ b < 12) (hn : 0 ≤ nn ∧ nn ≤ 999) (he : 0 ≤ e ∧ e ≤ 9999) (ha : ∀ i, 0 ≤ i → i < A (92 + 26 * b + 13) → (0 ≤ A (92 + 26 * b + 14 + 2 * i) ∧ A (92 + 26 * b + 14 + 2 * i) ≤ 3) ∧ (0 ≤ A (92 + 26 * b + 14 + 2 * i + 1) ∧ A (92 + 26 * b + 14 + 2 * i + 1) ≤ 999)) {E : xE} {res : xR} : ∀ (m : Nat) (i v y1 y2 : Int), 0 ≤ i → i ≤ A (92 + 26 * b + 13) → (0 ≤ v ∧ v ≤ 9989001) → RUN E res m kd_X12_paidFor (zget kd_X12_paidFor 53) 53 [590, b, 92 + 26 * b, nn, e, v, i, y1, y2] [] H → REPR E res (some (0, pdF (fun i => A (92 + 26 * b + 14 + 2 * i)) (fun i => A (92 + 26 * b + 14 + 2 * i + 1)) nn e (A (92 + 26 * b + 13) - i).toNat i v)) H := by
  intro m
  induction m using Nat.strongRecOn with
  | _ m ih =>
    intro i v y1 y2 i0 i1 hv h
    have r6 := hB.2.2.2.2.1 b hb.1 hb.2
    have z1 : zw (i + 1) = i + 1 := zw_lit (by omega) (by omega)
    have z2 : zw (92 + 26 * b + 13) = 92 + 26 * b + 13 := zw_lit (by omega) (by omega)
    have z3 : zw (92 + 26 * b + 14) = 92 + 26 * b + 14 := zw_lit (by omega) (by omega)
    have z4 : zw (2 * i) = 2 * i := zw_lit (by omega) (by omega)
    have z5 : zw (92 + 26 * b + 14 + 2 * i) = 92 + 26 * b + 14 + 2 * i := zw_lit (by omega) (by omega)
    have z6 : zw (92 + 26 * b + 14 + 2 * i + 1) = 92 + 26 * b + 14 + 2 * i + 1 := zw_lit (by omega) (by omega)
    by_cases c1 : i < A (92 + 26 * b + 13)
    · have c' : ¬ A (92 + 26 * b + 13) ≤ i := by omega
      obtain ⟨hk, ham⟩ := ha i i0 c1
      have st : (A (92 + 26 * b + 13) - i).toNat = (A (92 + 26 * b + 13) - (i + 1)).toNat + 1 := by omega
      rw [st]
      unfold pdF
      have mm := mul_in (n := min (A (92 + 26 * b + 14 + 2 * i + 1)) nn) (e := e) (by omega) he
      have zm : zw (min (A (92 + 26 * b + 14 + 2 * i + 1)) nn * e) = min (A (92 + 26 * b + 14 + 2 * i + 1)) nn * e := zw_lit (by omega) (by omega)
      have mc : min nn (A (92 + 26 * b + 14 + 2 * i + 1)) = min (A (92 + 26 * b + 14 + 2 * i + 1)) nn := Int.min_comm _ _
      have d2 : q2 (· / ·) (min (A (92 + 26 * b + 14 + 2 * i + 1)) nn * e) 2 = min (A (92 + 26 * b + 14 + 2 * i + 1)) nn * e / 2 := q2_div (by omega) (by omega) (by decide) (by decide)
      have d4 : q2 (· / ·) (min (A (92 + 26 * b + 14 + 2 * i + 1)) nn * e) 4 = min (A (92 + 26 * b + 14 + 2 * i + 1)) nn * e / 4 := q2_div (by omega) (by omega) (by decide) (by decide)
      have dv : q2 (· / ·) v 2 = v / 2 := q2_div (by omega) (by omega) (by decide) (by decide)
      have s2 : zw (v - min (A (92 + 26 * b + 14 + 2 * i + 1)) nn * e / 2) = v - min (A (92 + 26 * b + 14 + 2 * i + 1)) nn * e / 2 := zw_lit (by omega) (by omega)
      have s4 : zw (v - min (A (92 + 26 * b + 14 + 2 * i + 1)) nn * e / 4) = v - min (A (92 + 26 * b + 14 + 2 * i + 1)) nn * e / 4 := zw_lit (by omega) (by omega)
      have nx : ∀ (u y1 y2 : Int), u = pdS nn e (A (92 + 26 * b + 14 + 2 * i)) (A (92 + 26 * b + 14 + 2 * i + 1)) v → xJ E res m kd_X12_paidFor 53 [590, b, 92 + 26 * b, nn, e, u, i + 1, y1, y2] [] H → REPR E res (some (0, pdF (fun i => A (92 + 26 * b + 14 + 2 * i)) (fun i => A (92 + 26 * b + 14 + 2 * i + 1)) nn e (A (92 + 26 * b + 13) - (i + 1)).toNat (i + 1) (pdS nn e (A (92 + 26 * b + 14 + 2 * i)) (A (92 + 26 * b + 14 + 2 * i + 1)) v))) H := by
        rintro u y1 y2 rfl ⟨k, hk, g⟩
        exact ih k hk (i + 1) _ y1 y2 (by omega) (by omega) (pdS_in hn he ham.1 hv) g
      by_cases k1 : A (92 + 26 * b + 14 + 2 * i) = 1
      · have h := xw_top (hd := [53]) 8 xD6_ok xc_X12_paidFor xa_X12_paidFor (t := 53) rfl h
        simp (maxDischargeDepth := 12) -implicitDefEqProofs [vb_X12_paidFor_0, vb_X12_paidFor_53, vb_X12_paidFor_123, vb_X12_paidFor_141, vb_X12_paidFor_153, vb_X12_paidFor_167, xI_0, xI_1, xI_3, xI_6, xI_7, xI_8, xI_14, xI_15, xI_16, xI_17, xI_36, xI_44, xI_46, xI_49, xI_51, xI_60, xI_62, xw_X12_paidFor_0, xw_X12_paidFor_53, xw_X12_paidFor_123, xw_X12_paidFor_141, xw_X12_paidFor_153, xw_X12_paidFor_167, zw_lit, xB_c, xB_s, xB_n, i1_c, j2_c, k1_c, jJ_e, xlg, xls, xla, xpd, ppush, zw_m1, zw_m2, zw_m3, gf_12_0, gf_12_28, tg_12_0, tg_12_28, gv_590_0, gv_590_28, xD1, xD2, xD3, xD4, xD5, xD6, xb1_0, hA, c1, c', mc, zm, k1, d2, s2, z1, z2, z3, z4, z5, z6] at h
        exact nx _ _ _ (by unfold pdS; rw [if_pos k1]) h
      by_cases k2 : A (92 + 26 * b + 14 + 2 * i) = 2
      · have h := xw_top (hd := [53]) 8 xD6_ok xc_X12_paidFor xa_X12_paidFor (t := 53) rfl h
        simp (maxDischargeDepth := 12) -implicitDefEqProofs [vb_X12_paidFor_0, vb_X12_paidFor_53, vb_X12_paidFor_123, vb_X12_paidFor_141, vb_X12_paidFor_153, vb_X12_paidFor_167, xI_0, xI_1, xI_3, xI_6, xI_7, xI_8, xI_14, xI_15, xI_16, xI_17, xI_36, xI_44, xI_46, xI_49, xI_51, xI_60, xI_62, xw_X12_paidFor_0, xw_X12_paidFor_53, xw_X12_paidFor_123, xw_X12_paidFor_141, xw_X12_paidFor_153, xw_X12_paidFor_167, zw_lit, xB_c, xB_s, xB_n, i1_c, j2_c, k1_c, jJ_e, xlg, xls, xla, xpd, ppush, zw_m1, zw_m2, zw_m3, gf_12_0, gf_12_28, tg_12_0, tg_12_28, gv_590_0, gv_590_28, xD1, xD2, xD3, xD4, xD5, xD6, xb1_0, hA, c1, c', mc, zm, k2, d4, s4, z1, z2, z3, z4, z5, z6] at h
        exact nx _ _ _ (by unfold pdS; rw [if_neg k1, if_pos k2]) h
      by_cases k0 : A (92 + 26 * b + 14 + 2 * i) = 0
      · have h := xw_top (hd := [53]) 8 xD6_ok xc_X12_paidFor xa_X12_paidFor (t := 53) rfl h
        simp (maxDischargeDepth := 12) -implicitDefEqProofs [vb_X12_paidFor_0, vb_X12_paidFor_53, vb_X12_paidFor_123, vb_X12_paidFor_141, vb_X12_paidFor_153, vb_X12_paidFor_167, xI_0, xI_1, xI_3, xI_6, xI_7, xI_8, xI_14, xI_15, xI_16, xI_17, xI_36, xI_44, xI_46, xI_49, xI_51, xI_60, xI_62, xw_X12_paidFor_0, xw_X12_paidFor_53, xw_X12_paidFor_123, xw_X12_paidFor_141, xw_X12_paidFor_153, xw_X12_paidFor_167, zw_lit, xB_c, xB_s, xB_n, i1_c, j2_c, k1_c, jJ_e, xlg, xls, xla, xpd, ppush, zw_m1, zw_m2, zw_m3, gf_12_0, gf_12_28, tg_12_0, tg_12_28, gv_590_0, gv_590_28, xD1, xD2, xD3, xD4, xD5, xD6, xb1_0, hA, c1, c', mc, zm, k0, z1, z2, z3, z4, z5, z6] at h
        exact nx _ _ _ (by unfold pdS; rw [if_neg k1, if_neg k2, if_pos k0]) h
      · have k3 : A (92 + 26 * b + 14 + 2 * i) = 3 := by omega
        have h := xw_top (hd := [53]) 8 xD6_ok xc_X12_paidFor xa_X12_paidFor (t := 53) rfl h
        simp (maxDischargeDepth := 12) -implicitDefEqProofs [vb_X12_paidFor_0, vb_X12_paidFor_53, vb_X12_paidFor_123, vb_X12_paidFor_141, vb_X12_paidFor_153, vb_X12_paidFor_167, xI_0, xI_1, xI_3, xI_6, xI_7, xI_8, xI_14, xI_15, xI_16, xI_17, xI_36, xI_44, xI_46, xI_49, xI_51, xI_60, xI_62, xw_X12_paidFor_0, xw_X12_paidFor_53, xw_X12_paidFor_123, xw_X12_paidFor_141, xw_X12_paidFor_153, xw_X12_paidFor_167, zw_lit, xB_c, xB_s, xB_n, i1_c, j2_c, k1_c, jJ_e, xlg, xls, xla, xpd, ppush, zw_m1, zw_m2, zw_m3, gf_12_0, gf_12_28, tg_12_0, tg_12_28, gv_590_0, gv_590_28, xD1, xD2, xD3, xD4, xD5, xD6, xb1_0, hA, c1, c', mc, zm, k3, dv, z1, z2, z3, z4, z5, z6] at h
        exact nx _ _ _ (by unfold pdS; rw [if_neg k1, if_neg k2, if_neg k0]) h
    · have c' : A (92 + 26 * b + 13) ≤ i := by omega
      rw [show (A (92 + 26 * b + 13) - i).toNat = 0 by omega]
      have h := xw_top (hd := [53]) 8 xD6_ok xc_X12_paidFor xa_X12_paidFor (t := 53) rfl h
      simp (maxDischargeDepth := 12) -implicitDefEqProofs [vb_X12_paidFor_0, vb_X12_paidFor_53, vb_X12_paidFor_123, vb_X12_paidFor_141, vb_X12_paidFor_153, vb_X12_paidFor_167, xI_0, xI_1, xI_3, xI_6, xI_7, xI_8, xI_14, xI_15, xI_16, xI_17, xI_36, xI_44, xI_46, xI_49, xI_51, xI_60, xI_62, xw_X12_paidFor_0, xw_X12_paidFor_53, xw_X12_paidFor_123, xw_X12_paidFor_141, xw_X12_paidFor_153, xw_X12_paidFor_167, zw_lit, xB_c, xB_s, xB_n, i1_c, j2_c, k1_c, jJ_e, xlg, xls, xla, xpd, ppush, zw_m1, zw_m2, zw_m3, gf_12_0, gf_12_28, tg_12_0, tg_12_28, gv_590_0, gv_590_28, xD1, xD2, xD3, xD4, xD5, xD6, xb1_0, hA, z2, c1, c'] at h
      exact h
set_option maxRecDepth 100000 in
theorem sp_X12_paidFor (b : Int) (A : Int → Int) (H : PH) (ok : OKR A) (hA : H 591 = A) (hM : TX A (mtZ A) H) (hb : 0 ≤ b ∧ b < A 0) : SPEC 233 [(2, 590), (0, b)] H (fun r H' => r = some (0, pd1 A b) ∧ H' = H) := by
  intro E m res h
  have os := ok.2.2.1
  unfold OKS at os
  have a0 := ok.1.1
  obtain ⟨x1, x2, x3, x4⟩ := ok.2.2.2.1 b hb.1 hb.2
  have lk := lack_in os.2.1 b
  have r6 := ok.1.2.2.2.2.1 b hb.1 (by omega)
  have f6 : H 607 b = (mtZ A).2.1 b := hM.2.1 _ (by omega) (by omega)
  have z1 : zw (26 * b) = 26 * b := zw_lit (by omega) (by omega)
  have z2 : zw (92 + 26 * b) = 92 + 26 * b := zw_lit (by omega) (by omega)
  have z3 : zw (92 + 26 * b + 11) = 92 + 26 * b + 11 := zw_lit (by omega) (by omega)
  have z4 : zw (92 + 26 * b + 10) = 92 + 26 * b + 10 := zw_lit (by omega) (by omega)
  have mm := mul_in (n := min (A (92 + 26 * b + 11)) ((mtZ A).2.1 b)) (e := min (A (92 + 26 * b + 10)) (A 5)) (by omega) (by omega)
  have zm : zw (min (A (92 + 26 * b + 11)) ((mtZ A).2.1 b) * min (A (92 + 26 * b + 10)) (A 5)) = min (A (92 + 26 * b + 11)) ((mtZ A).2.1 b) * min (A (92 + 26 * b + 10)) (A 5) := zw_lit (by omega) (by omega)
  have h := call_runP 9 vm_X12_paidFor h
  have h := xw_top (hd := [53]) 8 xD6_ok xc_X12_paidFor xa_X12_paidFor (t := 0) rfl h
  simp (maxDischargeDepth := 12) -implicitDefEqProofs [vb_X12_paidFor_0, vb_X12_paidFor_53, vb_X12_paidFor_123, vb_X12_paidFor_141, vb_X12_paidFor_153, vb_X12_paidFor_167, xI_0, xI_1, xI_3, xI_6, xI_7, xI_8, xI_14, xI_15, xI_16, xI_17, xI_36, xI_44, xI_46, xI_49, xI_51, xI_60, xI_62, xw_X12_paidFor_0, xw_X12_paidFor_53, xw_X12_paidFor_123, xw_X12_paidFor_141, xw_X12_paidFor_153, xw_X12_paidFor_167, zw_lit, xB_c, xB_s, xB_n, i1_c, j2_c, k1_c, jJ_e, xlg, xls, xla, xpd, ppush, zw_m1, zw_m2, zw_m3, gf_12_0, gf_12_28, tg_12_0, tg_12_28, gv_590_0, gv_590_28, xD1, xD2, xD3, xD4, xD5, xD6, xb1_0, hA, f6, z1, z2, z3, z4, zm] at h
  obtain ⟨k, hk, h⟩ := h
  have g := lp_mpf b _ _ A H hA ok.1 ⟨hb.1, by omega⟩ (by omega) (by omega) x4 k 0 _ 0 0 (by omega) (by omega) mm h
  rw [Int.sub_zero] at g
  exact ⟨_, _, g, rfl, rfl⟩
set_option maxRecDepth 100000 in
theorem lp_mpd (x : Int) (A : Int → Int) (H : PH) (ok : OKR A) (hA : H 591 = A) (hM : TX A (mtZ A) H) {E : xE} {res : xR} : ∀ (n : Nat) (b v : Int), 0 ≤ b → b ≤ A 0 → 0 ≤ v → v ≤ 9989001 * b → RUN E res n kd_X12_paid (zget kd_X12_paid 35) 35 [590, x, v, b] [] H → REPR E res (some (0, fdS (fun b => if 0 ≤ b ∧ b < A 0 then pd1 A b else 0) (A 0 - b).toNat b v)) H := by
  intro n
  induction n using Nat.strongRecOn with
  | _ n ih =>
    intro b v b0 b1 v0 v1 hh
    have a0 := ok.1.1
    have z1 : zw (b + 1) = b + 1 := zw_lit (by omega) (by omega)
    by_cases c : b < A 0
    · have c' : ¬ A 0 ≤ b := by omega
      have pi := pd1_in ok ⟨b0, c⟩
      have zv : zw (v + pd1 A b) = v + pd1 A b := zw_lit (by omega) (by omega)
      have st : (A 0 - b).toNat = (A 0 - (b + 1)).toNat + 1 := by omega
      rw [st]
      unfold fdS
      have hh := xw_top (hd := [35]) 7 xD6_ok xc_X12_paid xa_X12_paid (t := 35) rfl hh
      simp (maxDischargeDepth := 12) -implicitDefEqProofs [vb_X12_paid_0, vb_X12_paid_16, vb_X12_paid_31, vb_X12_paid_35, vb_X12_paid_59, xI_0, xI_1, xI_3, xI_6, xI_7, xI_8, xI_14, xI_36, xI_38, xI_43, xI_46, xI_49, xI_51, xI_61, xI_62, xw_X12_paid_0, xw_X12_paid_16, xw_X12_paid_31, xw_X12_paid_35, xw_X12_paid_59, zw_lit, xB_c, xB_s, xB_n, i1_c, j2_c, k1_c, jJ_e, xlg, xls, xla, xpd, ppush, zw_m1, zw_m2, zw_m3, gf_12_0, tg_12_0, gv_590_0, xD1, xD2, xD3, xD4, xD5, xD6, xb1_0, hA, c, c'] at hh
      obtain ⟨r, H1, ⟨rfl, rfl⟩, g⟩ := xc_use hh (sp_X12_paidFor b A H ok hA hM ⟨b0, c⟩)
      simp (maxDischargeDepth := 12) -implicitDefEqProofs [vb_X12_paid_0, vb_X12_paid_16, vb_X12_paid_31, vb_X12_paid_35, vb_X12_paid_59, xI_0, xI_1, xI_3, xI_6, xI_7, xI_8, xI_14, xI_36, xI_38, xI_43, xI_46, xI_49, xI_51, xI_61, xI_62, xw_X12_paid_0, xw_X12_paid_16, xw_X12_paid_31, xw_X12_paid_35, xw_X12_paid_59, zw_lit, xB_c, xB_s, xB_n, i1_c, j2_c, k1_c, jJ_e, xlg, xls, xla, xpd, ppush, zw_m1, zw_m2, zw_m3, gf_12_0, tg_12_0, gv_590_0, xD1, xD2, xD3, xD4, xD5, xD6, xb1_0, zv, z1] at g
      obtain ⟨m, hm, g⟩ := g
      rw [if_pos ⟨b0, c⟩]
      exact ih m hm (b + 1) _ (by omega) (by omega) (by omega) (by omega) g
    · have c' : A 0 ≤ b := by omega
      rw [show (A 0 - b).toNat = 0 by omega]
      have hh := xw_top (hd := [35]) 7 xD6_ok xc_X12_paid xa_X12_paid (t := 35) rfl hh
      simp (maxDischargeDepth := 12) -implicitDefEqProofs [vb_X12_paid_0, vb_X12_paid_16, vb_X12_paid_31, vb_X12_paid_35, vb_X12_paid_59, xI_0, xI_1, xI_3, xI_6, xI_7, xI_8, xI_14, xI_36, xI_38, xI_43, xI_46, xI_49, xI_51, xI_61, xI_62, xw_X12_paid_0, xw_X12_paid_16, xw_X12_paid_31, xw_X12_paid_35, xw_X12_paid_59, zw_lit, xB_c, xB_s, xB_n, i1_c, j2_c, k1_c, jJ_e, xlg, xls, xla, xpd, ppush, zw_m1, zw_m2, zw_m3, gf_12_0, tg_12_0, gv_590_0, xD1, xD2, xD3, xD4, xD5, xD6, xb1_0, hA, c, c'] at hh
      exact hh
set_option maxRecDepth 100000 in
theorem sp_m_paid (b : Int) (H : PH) (ok : OKR (H 591)) : SPEC 234 [(2, 590), (0, b)] H (fun r H' => r = some (0, pdQ (H 591) b) ∧ MQs H H') := by
  intro E n' res h
  have a0 := ok.1.1
  have a2 := ok.1.2.2.1
  have os := ok.2.2.1
  unfold OKS at os
  have z0 : zw (H 591 0 - 1) = H 591 0 - 1 := zw_lit (by omega) (by omega)
  have z2 : zw (H 591 2 - 1) = H 591 2 - 1 := zw_lit (by omega) (by omega)
  by_cases bm : b = -1
  · have h := call_runP 4 vm_X12_paid h
    have h := xw_top (hd := [35]) 7 xD6_ok xc_X12_paid xa_X12_paid (t := 0) rfl h
    simp (maxDischargeDepth := 12) -implicitDefEqProofs [vb_X12_paid_0, vb_X12_paid_16, vb_X12_paid_31, vb_X12_paid_35, vb_X12_paid_59, xI_0, xI_1, xI_3, xI_6, xI_7, xI_8, xI_14, xI_36, xI_38, xI_43, xI_46, xI_49, xI_51, xI_61, xI_62, xw_X12_paid_0, xw_X12_paid_16, xw_X12_paid_31, xw_X12_paid_35, xw_X12_paid_59, zw_lit, xB_c, xB_s, xB_n, i1_c, j2_c, k1_c, jJ_e, xlg, xls, xla, xpd, ppush, zw_m1, zw_m2, zw_m3, gf_12_0, tg_12_0, gv_590_0, xD1, xD2, xD3, xD4, xD5, xD6, xb1_0, bm] at h
    obtain ⟨r, H1, ⟨rfl, lm, sc⟩, g⟩ := xc_use h (sp_X12_layMatched H ok.1 ok.2.1 os.2.1)
    have eA : H1 591 = H 591 := sc.1 591 (by decide) (by decide)
    simp (maxDischargeDepth := 12) -implicitDefEqProofs [vb_X12_paid_0, vb_X12_paid_16, vb_X12_paid_31, vb_X12_paid_35, vb_X12_paid_59, xI_0, xI_1, xI_3, xI_6, xI_7, xI_8, xI_14, xI_36, xI_38, xI_43, xI_46, xI_49, xI_51, xI_61, xI_62, xw_X12_paid_0, xw_X12_paid_16, xw_X12_paid_31, xw_X12_paid_35, xw_X12_paid_59, zw_lit, xB_c, xB_s, xB_n, i1_c, j2_c, k1_c, jJ_e, xlg, xls, xla, xpd, ppush, zw_m1, zw_m2, zw_m3, gf_12_0, tg_12_0, gv_590_0, xD1, xD2, xD3, xD4, xD5, xD6, xb1_0] at g
    obtain ⟨k, hk, g⟩ := g
    have g := lp_mpd _ (H 591) H1 ok eA lm.2 k 0 0 (by omega) a0.1 (by omega) (by omega) g
    rw [Int.sub_zero] at g
    exact ⟨_, _, g, by unfold pdQ; rw [if_pos bm]; rfl, MQs_SCa sc⟩
  by_cases qb : 0 ≤ b ∧ b ≤ H 591 0 - 1
  · have b0 := qb.1
    have b1 := qb.2
    have b2 : ¬ b < 0 := by omega
    have b3 : ¬ H 591 0 - 1 < b := by omega
    have hq : 0 ≤ b ∧ b < H 591 0 := by omega
    have h := call_runP 4 vm_X12_paid h
    have h := xw_top (hd := [35]) 7 xD6_ok xc_X12_paid xa_X12_paid (t := 0) rfl h
    simp (maxDischargeDepth := 12) -implicitDefEqProofs [vb_X12_paid_0, vb_X12_paid_16, vb_X12_paid_31, vb_X12_paid_35, vb_X12_paid_59, xI_0, xI_1, xI_3, xI_6, xI_7, xI_8, xI_14, xI_36, xI_38, xI_43, xI_46, xI_49, xI_51, xI_61, xI_62, xw_X12_paid_0, xw_X12_paid_16, xw_X12_paid_31, xw_X12_paid_35, xw_X12_paid_59, zw_lit, xB_c, xB_s, xB_n, i1_c, j2_c, k1_c, jJ_e, xlg, xls, xla, xpd, ppush, zw_m1, zw_m2, zw_m3, gf_12_0, tg_12_0, gv_590_0, xD1, xD2, xD3, xD4, xD5, xD6, xb1_0, bm, z0, b0, b1, b2, b3] at h
    obtain ⟨r, H1, ⟨rfl, lm, sc⟩, g⟩ := xc_use h (sp_X12_layMatched H ok.1 ok.2.1 os.2.1)
    have eA : H1 591 = H 591 := sc.1 591 (by decide) (by decide)
    simp (maxDischargeDepth := 12) -implicitDefEqProofs [vb_X12_paid_0, vb_X12_paid_16, vb_X12_paid_31, vb_X12_paid_35, vb_X12_paid_59, xI_0, xI_1, xI_3, xI_6, xI_7, xI_8, xI_14, xI_36, xI_38, xI_43, xI_46, xI_49, xI_51, xI_61, xI_62, xw_X12_paid_0, xw_X12_paid_16, xw_X12_paid_31, xw_X12_paid_35, xw_X12_paid_59, zw_lit, xB_c, xB_s, xB_n, i1_c, j2_c, k1_c, jJ_e, xlg, xls, xla, xpd, ppush, zw_m1, zw_m2, zw_m3, gf_12_0, tg_12_0, gv_590_0, xD1, xD2, xD3, xD4, xD5, xD6, xb1_0, bm] at g
    obtain ⟨r, H2, ⟨rfl, rfl⟩, g2⟩ := xc_use g (sp_X12_paidFor b (H 591) H1 ok eA lm.2 hq)
    exact ⟨_, _, g2, by unfold pdQ; rw [if_neg bm, if_pos hq], MQs_SCa sc⟩
  · by_cases b0 : 0 ≤ b
    · have b1 : ¬ b ≤ H 591 0 - 1 := by omega
      have b2 : ¬ b < 0 := by omega
      have b3 : H 591 0 - 1 < b := by omega
      have h := call_runP 4 vm_X12_paid h
      have h := xw_top (hd := [35]) 7 xD6_ok xc_X12_paid xa_X12_paid (t := 0) rfl h
      simp (maxDischargeDepth := 12) -implicitDefEqProofs [vb_X12_paid_0, vb_X12_paid_16, vb_X12_paid_31, vb_X12_paid_35, vb_X12_paid_59, xI_0, xI_1, xI_3, xI_6, xI_7, xI_8, xI_14, xI_36, xI_38, xI_43, xI_46, xI_49, xI_51, xI_61, xI_62, xw_X12_paid_0, xw_X12_paid_16, xw_X12_paid_31, xw_X12_paid_35, xw_X12_paid_59, zw_lit, xB_c, xB_s, xB_n, i1_c, j2_c, k1_c, jJ_e, xlg, xls, xla, xpd, ppush, zw_m1, zw_m2, zw_m3, gf_12_0, tg_12_0, gv_590_0, xD1, xD2, xD3, xD4, xD5, xD6, xb1_0, bm, z0, b0, b1, b2, b3] at h
      exact ⟨_, _, h, by unfold pdQ; rw [if_neg bm, if_neg (by omega)], MQs_refl⟩
    · have b2 : b < 0 := by omega
      have h := call_runP 4 vm_X12_paid h
      have h := xw_top (hd := [35]) 7 xD6_ok xc_X12_paid xa_X12_paid (t := 0) rfl h
      simp (maxDischargeDepth := 12) -implicitDefEqProofs [vb_X12_paid_0, vb_X12_paid_16, vb_X12_paid_31, vb_X12_paid_35, vb_X12_paid_59, xI_0, xI_1, xI_3, xI_6, xI_7, xI_8, xI_14, xI_36, xI_38, xI_43, xI_46, xI_49, xI_51, xI_61, xI_62, xw_X12_paid_0, xw_X12_paid_16, xw_X12_paid_31, xw_X12_paid_35, xw_X12_paid_59, zw_lit, xB_c, xB_s, xB_n, i1_c, j2_c, k1_c, jJ_e, xlg, xls, xla, xpd, ppush, zw_m1, zw_m2, zw_m3, gf_12_0, tg_12_0, gv_590_0, xD1, xD2, xD3, xD4, xD5, xD6, xb1_0, bm, z0, b0, b2] at h
      exact ⟨_, _, h, by unfold pdQ; rw [if_neg bm, if_neg (by omega)], MQs_refl⟩
theorem pr_paid (b : Int) (H : PH) (h : REL H) : PAIR 127 [(2, 0), (0, b)] 234 [(2, 590), (0, b)] H := by
  obtain ⟨⟨S, n, rl⟩, tp⟩ := h
  intro E N res hh
  obtain ⟨r, H1, g, rfl, cq⟩ := sp_c_paid b S n H rl.2.1 rl.2.2.1 E N res hh
  refine ⟨_, H1, g, ⟨_, rfl⟩, ?_⟩
  obtain ⟨x1, x2, x3, x4, x5⟩ := RL_mid rl cq.2.2.1
  intro E N res hh
  obtain ⟨r', H2, g', rfl, mq⟩ := sp_m_paid b H1 x4 E N res hh
  exact ⟨_, H2, g', by rw [x1], REL_MQ (REL_CQ rl tp cq) mq⟩
theorem pr_is (w : Int) (H : PH) (h : REL H) : PAIR 110 [(2, 0), (0, w)] 210 [(2, 590), (0, w)] H := by
  obtain ⟨⟨S, n, rl⟩, tp⟩ := h
  obtain ⟨sz, wt, t1, t2, t3, t4⟩ := id tp
  intro E N res hh
  obtain ⟨r, H1, g, rfl, cq⟩ := sp_c_is w sz S n H rl.2.1 rl.2.2.1 t1 E N res hh
  refine ⟨_, H1, g, ⟨_, rfl⟩, ?_⟩
  obtain ⟨x1, x2, x3, x4, x5⟩ := RL_mid rl cq.2.2.1
  intro E N res hh
  obtain ⟨r', H2, g', rfl, mq⟩ := sp_m_is w sz n H1 x4 x2 (by rw [cq.2.2.1.1 590 (by decide)]; exact t3) E N res hh
  exact ⟨_, H2, g', by rw [x1], REL_MQ (REL_CQ rl tp cq) mq⟩
