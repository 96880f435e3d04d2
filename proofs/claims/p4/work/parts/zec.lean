def xm_X8_octetAt : List xbT := [(0, vb_X8_octetAt_0, some 20), (20, vb_X8_octetAt_20, none)]
theorem xc_X8_octetAt : xOK kd_X8_octetAt xm_X8_octetAt := ⟨ve_X8_octetAt_0, ve_X8_octetAt_20, trivial⟩
theorem xa_X8_octetAt : xm_X8_octetAt.all (fun q => aOKb q.2.1 && !q.2.1.isEmpty) = true := by decide +kernel
theorem xw_X8_octetAt_0 {E : xE} {res : xR} {N : Nat} {hd : List Nat} {C : xCT} {k : Nat} {L : List Int} {st : List pv} {H : PH} : xW E res N kd_X8_octetAt xm_X8_octetAt hd C (k + 1) 0 L st H = xB (fun t L st H => if t ∈ hd then xJ E res N kd_X8_octetAt t L st H else xW E res N kd_X8_octetAt xm_X8_octetAt hd C k t L st H) (REPR E res) C (some 20) vb_X8_octetAt_0 0 L st H := Eq.trans rfl rfl
theorem xw_X8_octetAt_20 {E : xE} {res : xR} {N : Nat} {hd : List Nat} {C : xCT} {k : Nat} {L : List Int} {st : List pv} {H : PH} : xW E res N kd_X8_octetAt xm_X8_octetAt hd C (k + 1) 20 L st H = xB (fun t L st H => if t ∈ hd then xJ E res N kd_X8_octetAt t L st H else xW E res N kd_X8_octetAt xm_X8_octetAt hd C k t L st H) (REPR E res) C (none) vb_X8_octetAt_20 20 L st H := Eq.trans rfl rfl
def xm_X11_bill : List xbT := [(0, vb_X11_bill_0, some 10), (10, vb_X11_bill_10, some 56), (56, vb_X11_bill_56, some 61), (61, vb_X11_bill_61, some 66), (66, vb_X11_bill_66, some 74), (74, vb_X11_bill_74, some 79), (79, vb_X11_bill_79, some 84), (84, vb_X11_bill_84, none)]
theorem xc_X11_bill : xOK kd_X11_bill xm_X11_bill := ⟨ve_X11_bill_0, ve_X11_bill_10, ve_X11_bill_56, ve_X11_bill_61, ve_X11_bill_66, ve_X11_bill_74, ve_X11_bill_79, ve_X11_bill_84, trivial⟩
theorem xa_X11_bill : xm_X11_bill.all (fun q => aOKb q.2.1 && !q.2.1.isEmpty) = true := by decide +kernel
theorem xw_X11_bill_0 {E : xE} {res : xR} {N : Nat} {hd : List Nat} {C : xCT} {k : Nat} {L : List Int} {st : List pv} {H : PH} : xW E res N kd_X11_bill xm_X11_bill hd C (k + 1) 0 L st H = xB (fun t L st H => if t ∈ hd then xJ E res N kd_X11_bill t L st H else xW E res N kd_X11_bill xm_X11_bill hd C k t L st H) (REPR E res) C (some 10) vb_X11_bill_0 0 L st H := Eq.trans rfl rfl
theorem xw_X11_bill_10 {E : xE} {res : xR} {N : Nat} {hd : List Nat} {C : xCT} {k : Nat} {L : List Int} {st : List pv} {H : PH} : xW E res N kd_X11_bill xm_X11_bill hd C (k + 1) 10 L st H = xB (fun t L st H => if t ∈ hd then xJ E res N kd_X11_bill t L st H else xW E res N kd_X11_bill xm_X11_bill hd C k t L st H) (REPR E res) C (some 56) vb_X11_bill_10 10 L st H := Eq.trans rfl rfl
theorem xw_X11_bill_56 {E : xE} {res : xR} {N : Nat} {hd : List Nat} {C : xCT} {k : Nat} {L : List Int} {st : List pv} {H : PH} : xW E res N kd_X11_bill xm_X11_bill hd C (k + 1) 56 L st H = xB (fun t L st H => if t ∈ hd then xJ E res N kd_X11_bill t L st H else xW E res N kd_X11_bill xm_X11_bill hd C k t L st H) (REPR E res) C (some 61) vb_X11_bill_56 56 L st H := Eq.trans rfl rfl
theorem xw_X11_bill_61 {E : xE} {res : xR} {N : Nat} {hd : List Nat} {C : xCT} {k : Nat} {L : List Int} {st : List pv} {H : PH} : xW E res N kd_X11_bill xm_X11_bill hd C (k + 1) 61 L st H = xB (fun t L st H => if t ∈ hd then xJ E res N kd_X11_bill t L st H else xW E res N kd_X11_bill xm_X11_bill hd C k t L st H) (REPR E res) C (some 66) vb_X11_bill_61 61 L st H := Eq.trans rfl rfl
theorem xw_X11_bill_66 {E : xE} {res : xR} {N : Nat} {hd : List Nat} {C : xCT} {k : Nat} {L : List Int} {st : List pv} {H : PH} : xW E res N kd_X11_bill xm_X11_bill hd C (k + 1) 66 L st H = xB (fun t L st H => if t ∈ hd then xJ E res N kd_X11_bill t L st H else xW E res N kd_X11_bill xm_X11_bill hd C k t L st H) (REPR E res) C (some 74) vb_X11_bill_66 66 L st H := Eq.trans rfl rfl
theorem xw_X11_bill_74 {E : xE} {res : xR} {N : Nat} {hd : List Nat} {C : xCT} {k : Nat} {L : List Int} {st : List pv} {H : PH} : xW E res N kd_X11_bill xm_X11_bill hd C (k + 1) 74 L st H = xB (fun t L st H => if t ∈ hd then xJ E res N kd_X11_bill t L st H else xW E res N kd_X11_bill xm_X11_bill hd C k t L st H) (REPR E res) C (some 79) vb_X11_bill_74 74 L st H := Eq.trans rfl rfl
theorem xw_X11_bill_79 {E : xE} {res : xR} {N : Nat} {hd : List Nat} {C : xCT} {k : Nat} {L : List Int} {st : List pv} {H : PH} : xW E res N kd_X11_bill xm_X11_bill hd C (k + 1) 79 L st H = xB (fun t L st H => if t ∈ hd then xJ E res N kd_X11_bill t L st H else xW E res N kd_X11_bill xm_X11_bill hd C k t L st H) (REPR E res) C (some 84) vb_X11_bill_79 79 L st H := Eq.trans rfl rfl
theorem xw_X11_bill_84 {E : xE} {res : xR} {N : Nat} {hd : List Nat} {C : xCT} {k : Nat} {L : List Int} {st : List pv} {H : PH} : xW E res N kd_X11_bill xm_X11_bill hd C (k + 1) 84 L st H = xB (fun t L st H => if t ∈ hd then xJ E res N kd_X11_bill t L st H else xW E res N kd_X11_bill xm_X11_bill hd C k t L st H) (REPR E res) C (none) vb_X11_bill_84 84 L st H := Eq.trans rfl rfl
def xm_X11_line : List xbT := [(0, vb_X11_line_0, some 10), (10, vb_X11_line_10, some 52), (52, vb_X11_line_52, some 57), (57, vb_X11_line_57, some 62), (62, vb_X11_line_62, some 67), (67, vb_X11_line_67, some 75), (75, vb_X11_line_75, none)]
theorem xc_X11_line : xOK kd_X11_line xm_X11_line := ⟨ve_X11_line_0, ve_X11_line_10, ve_X11_line_52, ve_X11_line_57, ve_X11_line_62, ve_X11_line_67, ve_X11_line_75, trivial⟩
theorem xa_X11_line : xm_X11_line.all (fun q => aOKb q.2.1 && !q.2.1.isEmpty) = true := by decide +kernel
theorem xw_X11_line_0 {E : xE} {res : xR} {N : Nat} {hd : List Nat} {C : xCT} {k : Nat} {L : List Int} {st : List pv} {H : PH} : xW E res N kd_X11_line xm_X11_line hd C (k + 1) 0 L st H = xB (fun t L st H => if t ∈ hd then xJ E res N kd_X11_line t L st H else xW E res N kd_X11_line xm_X11_line hd C k t L st H) (REPR E res) C (some 10) vb_X11_line_0 0 L st H := Eq.trans rfl rfl
theorem xw_X11_line_10 {E : xE} {res : xR} {N : Nat} {hd : List Nat} {C : xCT} {k : Nat} {L : List Int} {st : List pv} {H : PH} : xW E res N kd_X11_line xm_X11_line hd C (k + 1) 10 L st H = xB (fun t L st H => if t ∈ hd then xJ E res N kd_X11_line t L st H else xW E res N kd_X11_line xm_X11_line hd C k t L st H) (REPR E res) C (some 52) vb_X11_line_10 10 L st H := Eq.trans rfl rfl
theorem xw_X11_line_52 {E : xE} {res : xR} {N : Nat} {hd : List Nat} {C : xCT} {k : Nat} {L : List Int} {st : List pv} {H : PH} : xW E res N kd_X11_line xm_X11_line hd C (k + 1) 52 L st H = xB (fun t L st H => if t ∈ hd then xJ E res N kd_X11_line t L st H else xW E res N kd_X11_line xm_X11_line hd C k t L st H) (REPR E res) C (some 57) vb_X11_line_52 52 L st H := Eq.trans rfl rfl
theorem xw_X11_line_57 {E : xE} {res : xR} {N : Nat} {hd : List Nat} {C : xCT} {k : Nat} {L : List Int} {st : List pv} {H : PH} : xW E res N kd_X11_line xm_X11_line hd C (k + 1) 57 L st H = xB (fun t L st H => if t ∈ hd then xJ E res N kd_X11_line t L st H else xW E res N kd_X11_line xm_X11_line hd C k t L st H) (REPR E res) C (some 62) vb_X11_line_57 57 L st H := Eq.trans rfl rfl
theorem xw_X11_line_62 {E : xE} {res : xR} {N : Nat} {hd : List Nat} {C : xCT} {k : Nat} {L : List Int} {st : List pv} {H : PH} : xW E res N kd_X11_line xm_X11_line hd C (k + 1) 62 L st H = xB (fun t L st H => if t ∈ hd then xJ E res N kd_X11_line t L st H else xW E res N kd_X11_line xm_X11_line hd C k t L st H) (REPR E res) C (some 67) vb_X11_line_62 62 L st H := Eq.trans rfl rfl
theorem xw_X11_line_67 {E : xE} {res : xR} {N : Nat} {hd : List Nat} {C : xCT} {k : Nat} {L : List Int} {st : List pv} {H : PH} : xW E res N kd_X11_line xm_X11_line hd C (k + 1) 67 L st H = xB (fun t L st H => if t ∈ hd then xJ E res N kd_X11_line t L st H else xW E res N kd_X11_line xm_X11_line hd C k t L st H) (REPR E res) C (some 75) vb_X11_line_67 67 L st H := Eq.trans rfl rfl
theorem xw_X11_line_75 {E : xE} {res : xR} {N : Nat} {hd : List Nat} {C : xCT} {k : Nat} {L : List Int} {st : List pv} {H : PH} : xW E res N kd_X11_line xm_X11_line hd C (k + 1) 75 L st H = xB (fun t L st H => if t ∈ hd then xJ E res N kd_X11_line t L st H else xW E res N kd_X11_line xm_X11_line hd C k t L st H) (REPR E res) C (none) vb_X11_line_75 75 L st H := Eq.trans rfl rfl
def xm_X11_remarked : List xbT := [(0, vb_X11_remarked_0, some 39), (39, vb_X11_remarked_39, some 41), (41, vb_X11_remarked_41, some 66), (66, vb_X11_remarked_66, some 73), (73, vb_X11_remarked_73, none)]
theorem xc_X11_remarked : xOK kd_X11_remarked xm_X11_remarked := ⟨ve_X11_remarked_0, ve_X11_remarked_39, ve_X11_remarked_41, ve_X11_remarked_66, ve_X11_remarked_73, trivial⟩
theorem xa_X11_remarked : xm_X11_remarked.all (fun q => aOKb q.2.1 && !q.2.1.isEmpty) = true := by decide +kernel
theorem xw_X11_remarked_0 {E : xE} {res : xR} {N : Nat} {hd : List Nat} {C : xCT} {k : Nat} {L : List Int} {st : List pv} {H : PH} : xW E res N kd_X11_remarked xm_X11_remarked hd C (k + 1) 0 L st H = xB (fun t L st H => if t ∈ hd then xJ E res N kd_X11_remarked t L st H else xW E res N kd_X11_remarked xm_X11_remarked hd C k t L st H) (REPR E res) C (some 39) vb_X11_remarked_0 0 L st H := Eq.trans rfl rfl
theorem xw_X11_remarked_39 {E : xE} {res : xR} {N : Nat} {hd : List Nat} {C : xCT} {k : Nat} {L : List Int} {st : List pv} {H : PH} : xW E res N kd_X11_remarked xm_X11_remarked hd C (k + 1) 39 L st H = xB (fun t L st H => if t ∈ hd then xJ E res N kd_X11_remarked t L st H else xW E res N kd_X11_remarked xm_X11_remarked hd C k t L st H) (REPR E res) C (some 41) vb_X11_remarked_39 39 L st H := Eq.trans rfl rfl
theorem xw_X11_remarked_41 {E : xE} {res : xR} {N : Nat} {hd : List Nat} {C : xCT} {k : Nat} {L : List Int} {st : List pv} {H : PH} : xW E res N kd_X11_remarked xm_X11_remarked hd C (k + 1) 41 L st H = xB (fun t L st H => if t ∈ hd then xJ E res N kd_X11_remarked t L st H else xW E res N kd_X11_remarked xm_X11_remarked hd C k t L st H) (REPR E res) C (some 66) vb_X11_remarked_41 41 L st H := Eq.trans rfl rfl
theorem xw_X11_remarked_66 {E : xE} {res : xR} {N : Nat} {hd : List Nat} {C : xCT} {k : Nat} {L : List Int} {st : List pv} {H : PH} : xW E res N kd_X11_remarked xm_X11_remarked hd C (k + 1) 66 L st H = xB (fun t L st H => if t ∈ hd then xJ E res N kd_X11_remarked t L st H else xW E res N kd_X11_remarked xm_X11_remarked hd C k t L st H) (REPR E res) C (some 73) vb_X11_remarked_66 66 L st H := Eq.trans rfl rfl
theorem xw_X11_remarked_73 {E : xE} {res : xR} {N : Nat} {hd : List Nat} {C : xCT} {k : Nat} {L : List Int} {st : List pv} {H : PH} : xW E res N kd_X11_remarked xm_X11_remarked hd C (k + 1) 73 L st H = xB (fun t L st H => if t ∈ hd then xJ E res N kd_X11_remarked t L st H else xW E res N kd_X11_remarked xm_X11_remarked hd C k t L st H) (REPR E res) C (none) vb_X11_remarked_73 73 L st H := Eq.trans rfl rfl
def xm_X11_gone : List xbT := [(0, vb_X11_gone_0, some 23), (23, vb_X11_gone_23, some 24), (24, vb_X11_gone_24, none)]
theorem xc_X11_gone : xOK kd_X11_gone xm_X11_gone := ⟨ve_X11_gone_0, ve_X11_gone_23, ve_X11_gone_24, trivial⟩
theorem xa_X11_gone : xm_X11_gone.all (fun q => aOKb q.2.1 && !q.2.1.isEmpty) = true := by decide +kernel
theorem xw_X11_gone_0 {E : xE} {res : xR} {N : Nat} {hd : List Nat} {C : xCT} {k : Nat} {L : List Int} {st : List pv} {H : PH} : xW E res N kd_X11_gone xm_X11_gone hd C (k + 1) 0 L st H = xB (fun t L st H => if t ∈ hd then xJ E res N kd_X11_gone t L st H else xW E res N kd_X11_gone xm_X11_gone hd C k t L st H) (REPR E res) C (some 23) vb_X11_gone_0 0 L st H := Eq.trans rfl rfl
theorem xw_X11_gone_23 {E : xE} {res : xR} {N : Nat} {hd : List Nat} {C : xCT} {k : Nat} {L : List Int} {st : List pv} {H : PH} : xW E res N kd_X11_gone xm_X11_gone hd C (k + 1) 23 L st H = xB (fun t L st H => if t ∈ hd then xJ E res N kd_X11_gone t L st H else xW E res N kd_X11_gone xm_X11_gone hd C k t L st H) (REPR E res) C (some 24) vb_X11_gone_23 23 L st H := Eq.trans rfl rfl
theorem xw_X11_gone_24 {E : xE} {res : xR} {N : Nat} {hd : List Nat} {C : xCT} {k : Nat} {L : List Int} {st : List pv} {H : PH} : xW E res N kd_X11_gone xm_X11_gone hd C (k + 1) 24 L st H = xB (fun t L st H => if t ∈ hd then xJ E res N kd_X11_gone t L st H else xW E res N kd_X11_gone xm_X11_gone hd C k t L st H) (REPR E res) C (none) vb_X11_gone_24 24 L st H := Eq.trans rfl rfl
def xm_X12_bill : List xbT := [(0, vb_X12_bill_0, some 10), (10, vb_X12_bill_10, some 52), (52, vb_X12_bill_52, some 62), (62, vb_X12_bill_62, some 72), (72, vb_X12_bill_72, some 81), (81, vb_X12_bill_81, some 91), (91, vb_X12_bill_91, some 101), (101, vb_X12_bill_101, some 137), (137, vb_X12_bill_137, some 138), (138, vb_X12_bill_138, none)]
theorem xc_X12_bill : xOK kd_X12_bill xm_X12_bill := ⟨ve_X12_bill_0, ve_X12_bill_10, ve_X12_bill_52, ve_X12_bill_62, ve_X12_bill_72, ve_X12_bill_81, ve_X12_bill_91, ve_X12_bill_101, ve_X12_bill_137, ve_X12_bill_138, trivial⟩
theorem xa_X12_bill : xm_X12_bill.all (fun q => aOKb q.2.1 && !q.2.1.isEmpty) = true := by decide +kernel
theorem xw_X12_bill_0 {E : xE} {res : xR} {N : Nat} {hd : List Nat} {C : xCT} {k : Nat} {L : List Int} {st : List pv} {H : PH} : xW E res N kd_X12_bill xm_X12_bill hd C (k + 1) 0 L st H = xB (fun t L st H => if t ∈ hd then xJ E res N kd_X12_bill t L st H else xW E res N kd_X12_bill xm_X12_bill hd C k t L st H) (REPR E res) C (some 10) vb_X12_bill_0 0 L st H := Eq.trans rfl rfl
theorem xw_X12_bill_10 {E : xE} {res : xR} {N : Nat} {hd : List Nat} {C : xCT} {k : Nat} {L : List Int} {st : List pv} {H : PH} : xW E res N kd_X12_bill xm_X12_bill hd C (k + 1) 10 L st H = xB (fun t L st H => if t ∈ hd then xJ E res N kd_X12_bill t L st H else xW E res N kd_X12_bill xm_X12_bill hd C k t L st H) (REPR E res) C (some 52) vb_X12_bill_10 10 L st H := Eq.trans rfl rfl
theorem xw_X12_bill_52 {E : xE} {res : xR} {N : Nat} {hd : List Nat} {C : xCT} {k : Nat} {L : List Int} {st : List pv} {H : PH} : xW E res N kd_X12_bill xm_X12_bill hd C (k + 1) 52 L st H = xB (fun t L st H => if t ∈ hd then xJ E res N kd_X12_bill t L st H else xW E res N kd_X12_bill xm_X12_bill hd C k t L st H) (REPR E res) C (some 62) vb_X12_bill_52 52 L st H := Eq.trans rfl rfl
theorem xw_X12_bill_62 {E : xE} {res : xR} {N : Nat} {hd : List Nat} {C : xCT} {k : Nat} {L : List Int} {st : List pv} {H : PH} : xW E res N kd_X12_bill xm_X12_bill hd C (k + 1) 62 L st H = xB (fun t L st H => if t ∈ hd then xJ E res N kd_X12_bill t L st H else xW E res N kd_X12_bill xm_X12_bill hd C k t L st H) (REPR E res) C (some 72) vb_X12_bill_62 62 L st H := Eq.trans rfl rfl
theorem xw_X12_bill_72 {E : xE} {res : xR} {N : Nat} {hd : List Nat} {C : xCT} {k : Nat} {L : List Int} {st : List pv} {H : PH} : xW E res N kd_X12_bill xm_X12_bill hd C (k + 1) 72 L st H = xB (fun t L st H => if t ∈ hd then xJ E res N kd_X12_bill t L st H else xW E res N kd_X12_bill xm_X12_bill hd C k t L st H) (REPR E res) C (some 81) vb_X12_bill_72 72 L st H := Eq.trans rfl rfl
theorem xw_X12_bill_81 {E : xE} {res : xR} {N : Nat} {hd : List Nat} {C : xCT} {k : Nat} {L : List Int} {st : List pv} {H : PH} : xW E res N kd_X12_bill xm_X12_bill hd C (k + 1) 81 L st H = xB (fun t L st H => if t ∈ hd then xJ E res N kd_X12_bill t L st H else xW E res N kd_X12_bill xm_X12_bill hd C k t L st H) (REPR E res) C (some 91) vb_X12_bill_81 81 L st H := Eq.trans rfl rfl
theorem xw_X12_bill_91 {E : xE} {res : xR} {N : Nat} {hd : List Nat} {C : xCT} {k : Nat} {L : List Int} {st : List pv} {H : PH} : xW E res N kd_X12_bill xm_X12_bill hd C (k + 1) 91 L st H = xB (fun t L st H => if t ∈ hd then xJ E res N kd_X12_bill t L st H else xW E res N kd_X12_bill xm_X12_bill hd C k t L st H) (REPR E res) C (some 101) vb_X12_bill_91 91 L st H := Eq.trans rfl rfl
theorem xw_X12_bill_101 {E : xE} {res : xR} {N : Nat} {hd : List Nat} {C : xCT} {k : Nat} {L : List Int} {st : List pv} {H : PH} : xW E res N kd_X12_bill xm_X12_bill hd C (k + 1) 101 L st H = xB (fun t L st H => if t ∈ hd then xJ E res N kd_X12_bill t L st H else xW E res N kd_X12_bill xm_X12_bill hd C k t L st H) (REPR E res) C (some 137) vb_X12_bill_101 101 L st H := Eq.trans rfl rfl
theorem xw_X12_bill_137 {E : xE} {res : xR} {N : Nat} {hd : List Nat} {C : xCT} {k : Nat} {L : List Int} {st : List pv} {H : PH} : xW E res N kd_X12_bill xm_X12_bill hd C (k + 1) 137 L st H = xB (fun t L st H => if t ∈ hd then xJ E res N kd_X12_bill t L st H else xW E res N kd_X12_bill xm_X12_bill hd C k t L st H) (REPR E res) C (some 138) vb_X12_bill_137 137 L st H := Eq.trans rfl rfl
theorem xw_X12_bill_138 {E : xE} {res : xR} {N : Nat} {hd : List Nat} {C : xCT} {k : Nat} {L : List Int} {st : List pv} {H : PH} : xW E res N kd_X12_bill xm_X12_bill hd C (k + 1) 138 L st H = xB (fun t L st H => if t ∈ hd then xJ E res N kd_X12_bill t L st H else xW E res N kd_X12_bill xm_X12_bill hd C k t L st H) (REPR E res) C (none) vb_X12_bill_138 138 L st H := Eq.trans rfl rfl
def xm_X12_line : List xbT := [(0, vb_X12_line_0, some 10), (10, vb_X12_line_10, some 48), (48, vb_X12_line_48, some 57), (57, vb_X12_line_57, some 66), (66, vb_X12_line_66, some 75), (75, vb_X12_line_75, some 84), (84, vb_X12_line_84, some 120), (120, vb_X12_line_120, some 121), (121, vb_X12_line_121, none)]
theorem xc_X12_line : xOK kd_X12_line xm_X12_line := ⟨ve_X12_line_0, ve_X12_line_10, ve_X12_line_48, ve_X12_line_57, ve_X12_line_66, ve_X12_line_75, ve_X12_line_84, ve_X12_line_120, ve_X12_line_121, trivial⟩
theorem xa_X12_line : xm_X12_line.all (fun q => aOKb q.2.1 && !q.2.1.isEmpty) = true := by decide +kernel
theorem xw_X12_line_0 {E : xE} {res : xR} {N : Nat} {hd : List Nat} {C : xCT} {k : Nat} {L : List Int} {st : List pv} {H : PH} : xW E res N kd_X12_line xm_X12_line hd C (k + 1) 0 L st H = xB (fun t L st H => if t ∈ hd then xJ E res N kd_X12_line t L st H else xW E res N kd_X12_line xm_X12_line hd C k t L st H) (REPR E res) C (some 10) vb_X12_line_0 0 L st H := Eq.trans rfl rfl
theorem xw_X12_line_10 {E : xE} {res : xR} {N : Nat} {hd : List Nat} {C : xCT} {k : Nat} {L : List Int} {st : List pv} {H : PH} : xW E res N kd_X12_line xm_X12_line hd C (k + 1) 10 L st H = xB (fun t L st H => if t ∈ hd then xJ E res N kd_X12_line t L st H else xW E res N kd_X12_line xm_X12_line hd C k t L st H) (REPR E res) C (some 48) vb_X12_line_10 10 L st H := Eq.trans rfl rfl
theorem xw_X12_line_48 {E : xE} {res : xR} {N : Nat} {hd : List Nat} {C : xCT} {k : Nat} {L : List Int} {st : List pv} {H : PH} : xW E res N kd_X12_line xm_X12_line hd C (k + 1) 48 L st H = xB (fun t L st H => if t ∈ hd then xJ E res N kd_X12_line t L st H else xW E res N kd_X12_line xm_X12_line hd C k t L st H) (REPR E res) C (some 57) vb_X12_line_48 48 L st H := Eq.trans rfl rfl
theorem xw_X12_line_57 {E : xE} {res : xR} {N : Nat} {hd : List Nat} {C : xCT} {k : Nat} {L : List Int} {st : List pv} {H : PH} : xW E res N kd_X12_line xm_X12_line hd C (k + 1) 57 L st H = xB (fun t L st H => if t ∈ hd then xJ E res N kd_X12_line t L st H else xW E res N kd_X12_line xm_X12_line hd C k t L st H) (REPR E res) C (some 66) vb_X12_line_57 57 L st H := Eq.trans rfl rfl
theorem xw_X12_line_66 {E : xE} {res : xR} {N : Nat} {hd : List Nat} {C : xCT} {k : Nat} {L : List Int} {st : List pv} {H : PH} : xW E res N kd_X12_line xm_X12_line hd C (k + 1) 66 L st H = xB (fun t L st H => if t ∈ hd then xJ E res N kd_X12_line t L st H else xW E res N kd_X12_line xm_X12_line hd C k t L st H) (REPR E res) C (some 75) vb_X12_line_66 66 L st H := Eq.trans rfl rfl
theorem xw_X12_line_75 {E : xE} {res : xR} {N : Nat} {hd : List Nat} {C : xCT} {k : Nat} {L : List Int} {st : List pv} {H : PH} : xW E res N kd_X12_line xm_X12_line hd C (k + 1) 75 L st H = xB (fun t L st H => if t ∈ hd then xJ E res N kd_X12_line t L st H else xW E res N kd_X12_line xm_X12_line hd C k t L st H) (REPR E res) C (some 84) vb_X12_line_75 75 L st H := Eq.trans rfl rfl
theorem xw_X12_line_84 {E : xE} {res : xR} {N : Nat} {hd : List Nat} {C : xCT} {k : Nat} {L : List Int} {st : List pv} {H : PH} : xW E res N kd_X12_line xm_X12_line hd C (k + 1) 84 L st H = xB (fun t L st H => if t ∈ hd then xJ E res N kd_X12_line t L st H else xW E res N kd_X12_line xm_X12_line hd C k t L st H) (REPR E res) C (some 120) vb_X12_line_84 84 L st H := Eq.trans rfl rfl
theorem xw_X12_line_120 {E : xE} {res : xR} {N : Nat} {hd : List Nat} {C : xCT} {k : Nat} {L : List Int} {st : List pv} {H : PH} : xW E res N kd_X12_line xm_X12_line hd C (k + 1) 120 L st H = xB (fun t L st H => if t ∈ hd then xJ E res N kd_X12_line t L st H else xW E res N kd_X12_line xm_X12_line hd C k t L st H) (REPR E res) C (some 121) vb_X12_line_120 120 L st H := Eq.trans rfl rfl
theorem xw_X12_line_121 {E : xE} {res : xR} {N : Nat} {hd : List Nat} {C : xCT} {k : Nat} {L : List Int} {st : List pv} {H : PH} : xW E res N kd_X12_line xm_X12_line hd C (k + 1) 121 L st H = xB (fun t L st H => if t ∈ hd then xJ E res N kd_X12_line t L st H else xW E res N kd_X12_line xm_X12_line hd C k t L st H) (REPR E res) C (none) vb_X12_line_121 121 L st H := Eq.trans rfl rfl
def xm_X12_remarked : List xbT := [(0, vb_X12_remarked_0, some 60), (60, vb_X12_remarked_60, some 61), (61, vb_X12_remarked_61, none)]
theorem xc_X12_remarked : xOK kd_X12_remarked xm_X12_remarked := ⟨ve_X12_remarked_0, ve_X12_remarked_60, ve_X12_remarked_61, trivial⟩
theorem xa_X12_remarked : xm_X12_remarked.all (fun q => aOKb q.2.1 && !q.2.1.isEmpty) = true := by decide +kernel
theorem xw_X12_remarked_0 {E : xE} {res : xR} {N : Nat} {hd : List Nat} {C : xCT} {k : Nat} {L : List Int} {st : List pv} {H : PH} : xW E res N kd_X12_remarked xm_X12_remarked hd C (k + 1) 0 L st H = xB (fun t L st H => if t ∈ hd then xJ E res N kd_X12_remarked t L st H else xW E res N kd_X12_remarked xm_X12_remarked hd C k t L st H) (REPR E res) C (some 60) vb_X12_remarked_0 0 L st H := Eq.trans rfl rfl
theorem xw_X12_remarked_60 {E : xE} {res : xR} {N : Nat} {hd : List Nat} {C : xCT} {k : Nat} {L : List Int} {st : List pv} {H : PH} : xW E res N kd_X12_remarked xm_X12_remarked hd C (k + 1) 60 L st H = xB (fun t L st H => if t ∈ hd then xJ E res N kd_X12_remarked t L st H else xW E res N kd_X12_remarked xm_X12_remarked hd C k t L st H) (REPR E res) C (some 61) vb_X12_remarked_60 60 L st H := Eq.trans rfl rfl
theorem xw_X12_remarked_61 {E : xE} {res : xR} {N : Nat} {hd : List Nat} {C : xCT} {k : Nat} {L : List Int} {st : List pv} {H : PH} : xW E res N kd_X12_remarked xm_X12_remarked hd C (k + 1) 61 L st H = xB (fun t L st H => if t ∈ hd then xJ E res N kd_X12_remarked t L st H else xW E res N kd_X12_remarked xm_X12_remarked hd C k t L st H) (REPR E res) C (none) vb_X12_remarked_61 61 L st H := Eq.trans rfl rfl
def xm_X12_gone : List xbT := [(0, vb_X12_gone_0, some 23), (23, vb_X12_gone_23, some 24), (24, vb_X12_gone_24, none)]
theorem xc_X12_gone : xOK kd_X12_gone xm_X12_gone := ⟨ve_X12_gone_0, ve_X12_gone_23, ve_X12_gone_24, trivial⟩
theorem xa_X12_gone : xm_X12_gone.all (fun q => aOKb q.2.1 && !q.2.1.isEmpty) = true := by decide +kernel
theorem xw_X12_gone_0 {E : xE} {res : xR} {N : Nat} {hd : List Nat} {C : xCT} {k : Nat} {L : List Int} {st : List pv} {H : PH} : xW E res N kd_X12_gone xm_X12_gone hd C (k + 1) 0 L st H = xB (fun t L st H => if t ∈ hd then xJ E res N kd_X12_gone t L st H else xW E res N kd_X12_gone xm_X12_gone hd C k t L st H) (REPR E res) C (some 23) vb_X12_gone_0 0 L st H := Eq.trans rfl rfl
theorem xw_X12_gone_23 {E : xE} {res : xR} {N : Nat} {hd : List Nat} {C : xCT} {k : Nat} {L : List Int} {st : List pv} {H : PH} : xW E res N kd_X12_gone xm_X12_gone hd C (k + 1) 23 L st H = xB (fun t L st H => if t ∈ hd then xJ E res N kd_X12_gone t L st H else xW E res N kd_X12_gone xm_X12_gone hd C k t L st H) (REPR E res) C (some 24) vb_X12_gone_23 23 L st H := Eq.trans rfl rfl
theorem xw_X12_gone_24 {E : xE} {res : xR} {N : Nat} {hd : List Nat} {C : xCT} {k : Nat} {L : List Int} {st : List pv} {H : PH} : xW E res N kd_X12_gone xm_X12_gone hd C (k + 1) 24 L st H = xB (fun t L st H => if t ∈ hd then xJ E res N kd_X12_gone t L st H else xW E res N kd_X12_gone xm_X12_gone hd C k t L st H) (REPR E res) C (none) vb_X12_gone_24 24 L st H := Eq.trans rfl rfl
/-! ===== what is told of a bill, a line, a remark: both sides ===== -/
def biQ (A : Int → Int) (b w : Int) : Int := if 0 ≤ b ∧ b < A 0 then (if w = 0 then A (92 + 26 * b + 9) else if w = 1 then A (92 + 26 * b + 10) else if w = 2 then A (92 + 26 * b) else if w = 3 then A (92 + 26 * b + 13) else if w = 4 then A (92 + 26 * b + 11) else if 10 ≤ w ∧ w ≤ 9 + A (92 + 26 * b) then A (92 + 26 * b + 1 + (w - 10)) else -1) else -1
def liQ (A : Int → Int) (k w : Int) : Int := if 0 ≤ k ∧ k < A 2 then (if w = 0 then A (404 + 12 * k) else if w = 1 then A (404 + 12 * k + 1) else if w = 2 then A (404 + 12 * k + 2) else if w = 3 then A (404 + 12 * k + 3) else if 10 ≤ w ∧ w ≤ 9 + A (404 + 12 * k + 3) then A (404 + 12 * k + 4 + (w - 10)) else -1) else -1
def rmQ (A : Int → Int) (b i w : Int) : Int := if (0 ≤ b ∧ b < A 0) ∧ (0 ≤ i ∧ i < A (92 + 26 * b + 13)) ∧ (0 ≤ w ∧ w ≤ 1) then (if w = 0 then A (92 + 26 * b + 14 + 2 * i) else A (92 + 26 * b + 14 + 2 * i + 1)) else -1
def gnQ (A : Int → Int) (b : Int) : Int := if 0 ≤ b ∧ b < A 0 then A (92 + 26 * b + 12) else -1
theorem oc_eq {c : Int} (h : 1 ≤ c ∧ c ≤ 37) : (if c = 37 then 46 else if c ≤ 26 then zw (zw (c - 1) + 65) else zw (zw (c - 27) + 48)) = ocF c := by
  unfold ocF
  by_cases c1 : c = 37
  · rw [if_pos c1, if_pos c1]
  · rw [if_neg c1, if_neg c1]
    by_cases c2 : c ≤ 26
    · have z1 : zw (c - 1) = c - 1 := zw_lit (by omega) (by omega)
      have z2 : zw (c - 1 + 65) = c - 1 + 65 := zw_lit (by omega) (by omega)
      rw [if_pos c2, if_pos c2, z1, z2]
      omega
    · have z1 : zw (c - 27) = c - 27 := zw_lit (by omega) (by omega)
      have z2 : zw (c - 27 + 48) = c - 27 + 48 := zw_lit (by omega) (by omega)
      rw [if_neg c2, if_neg c2, z1, z2]
      omega
set_option maxRecDepth 100000 in
theorem sp_X8_octetAt (m w n : Int) (f : Int → Int) (H : PH) (vm : VM m n f) : SPEC 80 [(1, m), (0, w)] H (fun r H' => r = some (0, if 10 ≤ w ∧ w ≤ 9 + n then f (w - 10) else -1) ∧ H' = H) := by
  intro E n' res h
  obtain ⟨sz, n8, ob, _⟩ := vm
  have z1 : zw (10 + n) = 10 + n := zw_lit (by omega) (by omega)
  have z2 : zw (10 + n - 1) = 9 + n := by rw [show 10 + n - 1 = 9 + n by omega]; exact zw_lit (by omega) (by omega)
  by_cases qw : 10 ≤ w ∧ w ≤ 9 + n
  · have w0 := qw.1
    have w1 := qw.2
    have w2 : ¬ w < 10 := by omega
    have w3 : ¬ 9 + n < w := by omega
    have z3 : zw (w - 10) = w - 10 := zw_lit (by omega) (by omega)
    obtain ⟨o1, o2, o3⟩ := ob (w - 10) (by omega) (by omega)
    have oc := oc_eq ⟨o1, o2⟩
    have h := call_runP 3 vm_X8_octetAt h
    have h := xw_top (hd := []) 4 xD6_ok xc_X8_octetAt xa_X8_octetAt (t := 0) rfl h
    simp (maxDischargeDepth := 12) -implicitDefEqProofs [vb_X8_octetAt_0, vb_X8_octetAt_20, xI_1, xI_2, xI_7, xI_8, xI_14, xI_15, xI_38, xI_60, xI_62, xw_X8_octetAt_0, xw_X8_octetAt_20, zw_lit, xB_c, xB_s, xB_n, i1_c, j2_c, k1_c, jJ_e, xlg, xls, xla, xpd, ppush, zw_m1, zw_m2, zw_m3, xD1, xD2, xD3, xD4, xD5, xD6, xb1_0, sz, z1, z2, z3, w0, w1, w2, w3, oc] at h
    refine ⟨_, H, h, ?_, rfl⟩
    rw [if_pos qw, o3]
  · by_cases w0 : 10 ≤ w
    · have w1 : ¬ w ≤ 9 + n := by omega
      have w2 : ¬ w < 10 := by omega
      have w3 : 9 + n < w := by omega
      have h := call_runP 3 vm_X8_octetAt h
      have h := xw_top (hd := []) 4 xD6_ok xc_X8_octetAt xa_X8_octetAt (t := 0) rfl h
      simp (maxDischargeDepth := 12) -implicitDefEqProofs [vb_X8_octetAt_0, vb_X8_octetAt_20, xI_1, xI_2, xI_7, xI_8, xI_14, xI_15, xI_38, xI_60, xI_62, xw_X8_octetAt_0, xw_X8_octetAt_20, zw_lit, xB_c, xB_s, xB_n, i1_c, j2_c, k1_c, jJ_e, xlg, xls, xla, xpd, ppush, zw_m1, zw_m2, zw_m3, xD1, xD2, xD3, xD4, xD5, xD6, xb1_0, sz, z1, z2, w0, w1, w2, w3] at h
      exact ⟨_, H, h, by rw [if_neg (by omega)], rfl⟩
    · have w2 : w < 10 := by omega
      have h := call_runP 3 vm_X8_octetAt h
      have h := xw_top (hd := []) 4 xD6_ok xc_X8_octetAt xa_X8_octetAt (t := 0) rfl h
      simp (maxDischargeDepth := 12) -implicitDefEqProofs [vb_X8_octetAt_0, vb_X8_octetAt_20, xI_1, xI_2, xI_7, xI_8, xI_14, xI_15, xI_38, xI_60, xI_62, xw_X8_octetAt_0, xw_X8_octetAt_20, zw_lit, xB_c, xB_s, xB_n, i1_c, j2_c, k1_c, jJ_e, xlg, xls, xla, xpd, ppush, zw_m1, zw_m2, zw_m3, xD1, xD2, xD3, xD4, xD5, xD6, xb1_0, sz, z1, z2, w0, w2] at h
      exact ⟨_, H, h, by rw [if_neg (by omega)], rfl⟩
set_option maxRecDepth 100000 in
theorem sp_c_bill (b w : Int) (S : Int → Int → Int) (n : Int) (H : PH) (hR : RC H S n) (hM : MCC (S 0) H) : SPEC 111 [(2, 0), (0, b), (0, w)] H (fun r H' => r = some (0, biQ (S 0) b w) ∧ CQ H H' S n) := by
  intro E n' res h
  obtain ⟨e0, e2, z0, z2, a0, a2⟩ := RC_12 hR
  by_cases qb : 0 ≤ b ∧ b ≤ H 1 2 - 1
  · have b0 := qb.1
    have b1 := qb.2
    have b2 : ¬ b < 0 := by omega
    have b3 : ¬ H 1 2 - 1 < b := by omega
    have hq : 0 ≤ b ∧ b < S 0 0 := by omega
    have g46 : gv H 46 b = 57 + 3 * b := gv46 b0 (by omega)
    obtain ⟨g6, g7, g0, g1, g2, g3, g4, g5⟩ := KB_f (KB_of (b := b) b0 (by omega))
    obtain ⟨t1, t2, t3, t4, t5, t6, t7⟩ := hR.1.1.2.1 b b0 hq.2
    have i0c : 0 ≤ 57 + 3 * b + 1 := by omega
    have i0d : 0 ≤ 57 + 3 * b + 2 := by omega
    by_cases c : w = 0
    · have sw := sw_X11_bill_0
      have h := call_runP 4 vm_X11_bill h
      have h := xw_top (hd := []) 10 xD6_ok xc_X11_bill xa_X11_bill (t := 0) rfl h
      simp (maxDischargeDepth := 12) -implicitDefEqProofs [vb_X11_bill_0, vb_X11_bill_10, vb_X11_bill_56, vb_X11_bill_61, vb_X11_bill_66, vb_X11_bill_74, vb_X11_bill_79, vb_X11_bill_84, xI_0, xI_1, xI_4, xI_7, xI_38, xI_49, xI_53, xI_60, xI_61, xI_62, xI_104, xw_X11_bill_0, xw_X11_bill_10, xw_X11_bill_56, xw_X11_bill_61, xw_X11_bill_66, xw_X11_bill_74, xw_X11_bill_79, xw_X11_bill_84, zw_lit, xB_c, xB_s, xB_n, i1_c, j2_c, k1_c, jJ_e, xlg, xls, xla, xpd, ppush, zw_m1, zw_m2, zw_m3, gf_0_0, gf_0_1, gf_0_2, gf_0_3, gf_0_5, gf_1_1, gf_11_0, tg_0_0, tg_0_1, tg_0_2, tg_0_3, tg_0_5, tg_11_0, tg_1_1, gv_1_1, gv_0_0, xD1, xD2, xD3, xD4, xD5, xD6, xb1_0, z0, b0, b1, b2, b3, g46, c, sw, g1, ← t2] at h
      exact ⟨_, _, h, by rw [c]; unfold biQ; rw [if_pos hq]; rfl, CQ_refl hR hM⟩
    by_cases c : w = 1
    · have sw := sw_X11_bill_1
      have h := call_runP 4 vm_X11_bill h
      have h := xw_top (hd := []) 10 xD6_ok xc_X11_bill xa_X11_bill (t := 0) rfl h
      simp (maxDischargeDepth := 12) -implicitDefEqProofs [vb_X11_bill_0, vb_X11_bill_10, vb_X11_bill_56, vb_X11_bill_61, vb_X11_bill_66, vb_X11_bill_74, vb_X11_bill_79, vb_X11_bill_84, xI_0, xI_1, xI_4, xI_7, xI_38, xI_49, xI_53, xI_60, xI_61, xI_62, xI_104, xw_X11_bill_0, xw_X11_bill_10, xw_X11_bill_56, xw_X11_bill_61, xw_X11_bill_66, xw_X11_bill_74, xw_X11_bill_79, xw_X11_bill_84, zw_lit, xB_c, xB_s, xB_n, i1_c, j2_c, k1_c, jJ_e, xlg, xls, xla, xpd, ppush, zw_m1, zw_m2, zw_m3, gf_0_0, gf_0_1, gf_0_2, gf_0_3, gf_0_5, gf_1_1, gf_11_0, tg_0_0, tg_0_1, tg_0_2, tg_0_3, tg_0_5, tg_11_0, tg_1_1, gv_1_1, gv_0_0, xD1, xD2, xD3, xD4, xD5, xD6, xb1_0, z0, b0, b1, b2, b3, g46, c, sw, g2, ← t3] at h
      exact ⟨_, _, h, by rw [c]; unfold biQ; rw [if_pos hq]; rfl, CQ_refl hR hM⟩
    by_cases c : w = 2
    · have sw := sw_X11_bill_2
      have h := call_runP 4 vm_X11_bill h
      have h := xw_top (hd := []) 10 xD6_ok xc_X11_bill xa_X11_bill (t := 0) rfl h
      simp (maxDischargeDepth := 12) -implicitDefEqProofs [vb_X11_bill_0, vb_X11_bill_10, vb_X11_bill_56, vb_X11_bill_61, vb_X11_bill_66, vb_X11_bill_74, vb_X11_bill_79, vb_X11_bill_84, xI_0, xI_1, xI_4, xI_7, xI_38, xI_49, xI_53, xI_60, xI_61, xI_62, xI_104, xw_X11_bill_0, xw_X11_bill_10, xw_X11_bill_56, xw_X11_bill_61, xw_X11_bill_66, xw_X11_bill_74, xw_X11_bill_79, xw_X11_bill_84, zw_lit, xB_c, xB_s, xB_n, i1_c, j2_c, k1_c, jJ_e, xlg, xls, xla, xpd, ppush, zw_m1, zw_m2, zw_m3, gf_0_0, gf_0_1, gf_0_2, gf_0_3, gf_0_5, gf_1_1, gf_11_0, tg_0_0, tg_0_1, tg_0_2, tg_0_3, tg_0_5, tg_11_0, tg_1_1, gv_1_1, gv_0_0, xD1, xD2, xD3, xD4, xD5, xD6, xb1_0, z0, b0, b1, b2, b3, g46, c, sw, g0, t1.1] at h
      exact ⟨_, _, h, by rw [c]; unfold biQ; rw [if_pos hq]; rfl, CQ_refl hR hM⟩
    by_cases c : w = 3
    · have sw := sw_X11_bill_3
      have h := call_runP 4 vm_X11_bill h
      have h := xw_top (hd := []) 10 xD6_ok xc_X11_bill xa_X11_bill (t := 0) rfl h
      simp (maxDischargeDepth := 12) -implicitDefEqProofs [vb_X11_bill_0, vb_X11_bill_10, vb_X11_bill_56, vb_X11_bill_61, vb_X11_bill_66, vb_X11_bill_74, vb_X11_bill_79, vb_X11_bill_84, xI_0, xI_1, xI_4, xI_7, xI_38, xI_49, xI_53, xI_60, xI_61, xI_62, xI_104, xw_X11_bill_0, xw_X11_bill_10, xw_X11_bill_56, xw_X11_bill_61, xw_X11_bill_66, xw_X11_bill_74, xw_X11_bill_79, xw_X11_bill_84, zw_lit, xB_c, xB_s, xB_n, i1_c, j2_c, k1_c, jJ_e, xlg, xls, xla, xpd, ppush, zw_m1, zw_m2, zw_m3, gf_0_0, gf_0_1, gf_0_2, gf_0_3, gf_0_5, gf_1_1, gf_11_0, tg_0_0, tg_0_1, tg_0_2, tg_0_3, tg_0_5, tg_11_0, tg_1_1, gv_1_1, gv_0_0, xD1, xD2, xD3, xD4, xD5, xD6, xb1_0, z0, b0, b1, b2, b3, g46, c, sw, g5, ← t6] at h
      exact ⟨_, _, h, by rw [c]; unfold biQ; rw [if_pos hq]; rfl, CQ_refl hR hM⟩
    by_cases c : w = 4
    · have sw := sw_X11_bill_4
      have h := call_runP 4 vm_X11_bill h
      have h := xw_top (hd := []) 10 xD6_ok xc_X11_bill xa_X11_bill (t := 0) rfl h
      simp (maxDischargeDepth := 12) -implicitDefEqProofs [vb_X11_bill_0, vb_X11_bill_10, vb_X11_bill_56, vb_X11_bill_61, vb_X11_bill_66, vb_X11_bill_74, vb_X11_bill_79, vb_X11_bill_84, xI_0, xI_1, xI_4, xI_7, xI_38, xI_49, xI_53, xI_60, xI_61, xI_62, xI_104, xw_X11_bill_0, xw_X11_bill_10, xw_X11_bill_56, xw_X11_bill_61, xw_X11_bill_66, xw_X11_bill_74, xw_X11_bill_79, xw_X11_bill_84, zw_lit, xB_c, xB_s, xB_n, i1_c, j2_c, k1_c, jJ_e, xlg, xls, xla, xpd, ppush, zw_m1, zw_m2, zw_m3, gf_0_0, gf_0_1, gf_0_2, gf_0_3, gf_0_5, gf_1_1, gf_11_0, tg_0_0, tg_0_1, tg_0_2, tg_0_3, tg_0_5, tg_11_0, tg_1_1, gv_1_1, gv_0_0, xD1, xD2, xD3, xD4, xD5, xD6, xb1_0, z0, b0, b1, b2, b3, g46, c, sw, g3, ← t4] at h
      exact ⟨_, _, h, by rw [c]; unfold biQ; rw [if_pos hq]; rfl, CQ_refl hR hM⟩
    have sw := sw_X11_bill_d (x := w) (by omega)
    have h := call_runP 4 vm_X11_bill h
    have h := xw_top (hd := []) 10 xD6_ok xc_X11_bill xa_X11_bill (t := 0) rfl h
    simp (maxDischargeDepth := 12) -implicitDefEqProofs [vb_X11_bill_0, vb_X11_bill_10, vb_X11_bill_56, vb_X11_bill_61, vb_X11_bill_66, vb_X11_bill_74, vb_X11_bill_79, vb_X11_bill_84, xI_0, xI_1, xI_4, xI_7, xI_38, xI_49, xI_53, xI_60, xI_61, xI_62, xI_104, xw_X11_bill_0, xw_X11_bill_10, xw_X11_bill_56, xw_X11_bill_61, xw_X11_bill_66, xw_X11_bill_74, xw_X11_bill_79, xw_X11_bill_84, zw_lit, xB_c, xB_s, xB_n, i1_c, j2_c, k1_c, jJ_e, xlg, xls, xla, xpd, ppush, zw_m1, zw_m2, zw_m3, gf_0_0, gf_0_1, gf_0_2, gf_0_3, gf_0_5, gf_1_1, gf_11_0, tg_0_0, tg_0_1, tg_0_2, tg_0_3, tg_0_5, tg_11_0, tg_1_1, gv_1_1, gv_0_0, xD1, xD2, xD3, xD4, xD5, xD6, xb1_0, z0, b0, b1, b2, b3, g46, sw, g0] at h
    obtain ⟨r, H1, ⟨rfl, rfl⟩, g⟩ := xc_use h (sp_X8_octetAt _ w _ _ H t1)
    simp (maxDischargeDepth := 12) -implicitDefEqProofs [vb_X11_bill_0, vb_X11_bill_10, vb_X11_bill_56, vb_X11_bill_61, vb_X11_bill_66, vb_X11_bill_74, vb_X11_bill_79, vb_X11_bill_84, xI_0, xI_1, xI_4, xI_7, xI_38, xI_49, xI_53, xI_60, xI_61, xI_62, xI_104, xw_X11_bill_0, xw_X11_bill_10, xw_X11_bill_56, xw_X11_bill_61, xw_X11_bill_66, xw_X11_bill_74, xw_X11_bill_79, xw_X11_bill_84, zw_lit, xB_c, xB_s, xB_n, i1_c, j2_c, k1_c, jJ_e, xlg, xls, xla, xpd, ppush, zw_m1, zw_m2, zw_m3, gf_0_0, gf_0_1, gf_0_2, gf_0_3, gf_0_5, gf_1_1, gf_11_0, tg_0_0, tg_0_1, tg_0_2, tg_0_3, tg_0_5, tg_11_0, tg_1_1, gv_1_1, gv_0_0, xD1, xD2, xD3, xD4, xD5, xD6, xb1_0] at g
    have v : biQ (S 0) b w = if 10 ≤ w ∧ w ≤ 9 + S 0 (92 + 26 * b) then S 0 (92 + 26 * b + 1 + (w - 10)) else -1 := by
      unfold biQ
      rw [if_pos hq, if_neg (by omega), if_neg (by omega), if_neg (by omega), if_neg (by omega), if_neg (by omega)]
    exact ⟨_, _, g, by rw [v], CQ_refl hR hM⟩
  · by_cases b0 : 0 ≤ b
    · have b1 : ¬ b ≤ H 1 2 - 1 := by omega
      have b2 : ¬ b < 0 := by omega
      have b3 : H 1 2 - 1 < b := by omega
      have h := call_runP 4 vm_X11_bill h
      have h := xw_top (hd := []) 10 xD6_ok xc_X11_bill xa_X11_bill (t := 0) rfl h
      simp (maxDischargeDepth := 12) -implicitDefEqProofs [vb_X11_bill_0, vb_X11_bill_10, vb_X11_bill_56, vb_X11_bill_61, vb_X11_bill_66, vb_X11_bill_74, vb_X11_bill_79, vb_X11_bill_84, xI_0, xI_1, xI_4, xI_7, xI_38, xI_49, xI_53, xI_60, xI_61, xI_62, xI_104, xw_X11_bill_0, xw_X11_bill_10, xw_X11_bill_56, xw_X11_bill_61, xw_X11_bill_66, xw_X11_bill_74, xw_X11_bill_79, xw_X11_bill_84, zw_lit, xB_c, xB_s, xB_n, i1_c, j2_c, k1_c, jJ_e, xlg, xls, xla, xpd, ppush, zw_m1, zw_m2, zw_m3, gf_0_0, gf_0_1, gf_0_2, gf_0_3, gf_0_5, gf_1_1, gf_11_0, tg_0_0, tg_0_1, tg_0_2, tg_0_3, tg_0_5, tg_11_0, tg_1_1, gv_1_1, gv_0_0, xD1, xD2, xD3, xD4, xD5, xD6, xb1_0, z0, z2, b0, b1, b2, b3] at h
      exact ⟨_, _, h, by unfold biQ; rw [if_neg (by omega)], CQ_refl hR hM⟩
    · have b2 : b < 0 := by omega
      have h := call_runP 4 vm_X11_bill h
      have h := xw_top (hd := []) 10 xD6_ok xc_X11_bill xa_X11_bill (t := 0) rfl h
      simp (maxDischargeDepth := 12) -implicitDefEqProofs [vb_X11_bill_0, vb_X11_bill_10, vb_X11_bill_56, vb_X11_bill_61, vb_X11_bill_66, vb_X11_bill_74, vb_X11_bill_79, vb_X11_bill_84, xI_0, xI_1, xI_4, xI_7, xI_38, xI_49, xI_53, xI_60, xI_61, xI_62, xI_104, xw_X11_bill_0, xw_X11_bill_10, xw_X11_bill_56, xw_X11_bill_61, xw_X11_bill_66, xw_X11_bill_74, xw_X11_bill_79, xw_X11_bill_84, zw_lit, xB_c, xB_s, xB_n, i1_c, j2_c, k1_c, jJ_e, xlg, xls, xla, xpd, ppush, zw_m1, zw_m2, zw_m3, gf_0_0, gf_0_1, gf_0_2, gf_0_3, gf_0_5, gf_1_1, gf_11_0, tg_0_0, tg_0_1, tg_0_2, tg_0_3, tg_0_5, tg_11_0, tg_1_1, gv_1_1, gv_0_0, xD1, xD2, xD3, xD4, xD5, xD6, xb1_0, z0, z2, b0, b2] at h
      exact ⟨_, _, h, by unfold biQ; rw [if_neg (by omega)], CQ_refl hR hM⟩
set_option maxRecDepth 100000 in
theorem sp_c_line (k w : Int) (S : Int → Int → Int) (n : Int) (H : PH) (hR : RC H S n) (hM : MCC (S 0) H) : SPEC 112 [(2, 0), (0, k), (0, w)] H (fun r H' => r = some (0, liQ (S 0) k w) ∧ CQ H H' S n) := by
  intro E n' res h
  obtain ⟨e0, e2, z0, z2, a0, a2⟩ := RC_12 hR
  by_cases qk : 0 ≤ k ∧ k ≤ H 1 4 - 1
  · have k0 := qk.1
    have k1 := qk.2
    have k2 : ¬ k < 0 := by omega
    have k3 : ¬ H 1 4 - 1 < k := by omega
    have hq : 0 ≤ k ∧ k < S 0 2 := by omega
    have kq := hR.1.2.2.1 k k0 (by omega)
    obtain ⟨f5, g0, g1, g2, g3, g4, _⟩ := KL_f kq
    obtain ⟨l0, l1, l2, l3⟩ := hR.1.1.2.2.1 k k0 hq.2
    by_cases c : w = 0
    · have sw := sw_X11_line_0
      have h := call_runP 4 vm_X11_line h
      have h := xw_top (hd := []) 9 xD6_ok xc_X11_line xa_X11_line (t := 0) rfl h
      simp (maxDischargeDepth := 12) -implicitDefEqProofs [vb_X11_line_0, vb_X11_line_10, vb_X11_line_52, vb_X11_line_57, vb_X11_line_62, vb_X11_line_67, vb_X11_line_75, xI_0, xI_1, xI_4, xI_7, xI_38, xI_49, xI_53, xI_60, xI_61, xI_62, xI_105, xw_X11_line_0, xw_X11_line_10, xw_X11_line_52, xw_X11_line_57, xw_X11_line_62, xw_X11_line_67, xw_X11_line_75, zw_lit, xB_c, xB_s, xB_n, i1_c, j2_c, k1_c, jJ_e, xlg, xls, xla, xpd, ppush, zw_m1, zw_m2, zw_m3, gf_1_3, gf_5_0, gf_5_1, gf_5_2, gf_5_3, gf_11_0, tg_11_0, tg_1_3, tg_5_0, tg_5_1, tg_5_2, tg_5_3, gv_1_3, gv_0_0, xD1, xD2, xD3, xD4, xD5, xD6, xb1_0, z2, k0, k1, k2, k3, gv47, c, sw, g0, ← l0] at h
      exact ⟨_, _, h, by rw [c]; unfold liQ; rw [if_pos hq]; rfl, CQ_refl hR hM⟩
    by_cases c : w = 1
    · have sw := sw_X11_line_1
      have h := call_runP 4 vm_X11_line h
      have h := xw_top (hd := []) 9 xD6_ok xc_X11_line xa_X11_line (t := 0) rfl h
      simp (maxDischargeDepth := 12) -implicitDefEqProofs [vb_X11_line_0, vb_X11_line_10, vb_X11_line_52, vb_X11_line_57, vb_X11_line_62, vb_X11_line_67, vb_X11_line_75, xI_0, xI_1, xI_4, xI_7, xI_38, xI_49, xI_53, xI_60, xI_61, xI_62, xI_105, xw_X11_line_0, xw_X11_line_10, xw_X11_line_52, xw_X11_line_57, xw_X11_line_62, xw_X11_line_67, xw_X11_line_75, zw_lit, xB_c, xB_s, xB_n, i1_c, j2_c, k1_c, jJ_e, xlg, xls, xla, xpd, ppush, zw_m1, zw_m2, zw_m3, gf_1_3, gf_5_0, gf_5_1, gf_5_2, gf_5_3, gf_11_0, tg_11_0, tg_1_3, tg_5_0, tg_5_1, tg_5_2, tg_5_3, gv_1_3, gv_0_0, xD1, xD2, xD3, xD4, xD5, xD6, xb1_0, z2, k0, k1, k2, k3, gv47, c, sw, g1, ← l1] at h
      exact ⟨_, _, h, by rw [c]; unfold liQ; rw [if_pos hq]; rfl, CQ_refl hR hM⟩
    by_cases c : w = 2
    · have sw := sw_X11_line_2
      have h := call_runP 4 vm_X11_line h
      have h := xw_top (hd := []) 9 xD6_ok xc_X11_line xa_X11_line (t := 0) rfl h
      simp (maxDischargeDepth := 12) -implicitDefEqProofs [vb_X11_line_0, vb_X11_line_10, vb_X11_line_52, vb_X11_line_57, vb_X11_line_62, vb_X11_line_67, vb_X11_line_75, xI_0, xI_1, xI_4, xI_7, xI_38, xI_49, xI_53, xI_60, xI_61, xI_62, xI_105, xw_X11_line_0, xw_X11_line_10, xw_X11_line_52, xw_X11_line_57, xw_X11_line_62, xw_X11_line_67, xw_X11_line_75, zw_lit, xB_c, xB_s, xB_n, i1_c, j2_c, k1_c, jJ_e, xlg, xls, xla, xpd, ppush, zw_m1, zw_m2, zw_m3, gf_1_3, gf_5_0, gf_5_1, gf_5_2, gf_5_3, gf_11_0, tg_11_0, tg_1_3, tg_5_0, tg_5_1, tg_5_2, tg_5_3, gv_1_3, gv_0_0, xD1, xD2, xD3, xD4, xD5, xD6, xb1_0, z2, k0, k1, k2, k3, gv47, c, sw, g2, ← l2] at h
      exact ⟨_, _, h, by rw [c]; unfold liQ; rw [if_pos hq]; rfl, CQ_refl hR hM⟩
    by_cases c : w = 3
    · have sw := sw_X11_line_3
      have h := call_runP 4 vm_X11_line h
      have h := xw_top (hd := []) 9 xD6_ok xc_X11_line xa_X11_line (t := 0) rfl h
      simp (maxDischargeDepth := 12) -implicitDefEqProofs [vb_X11_line_0, vb_X11_line_10, vb_X11_line_52, vb_X11_line_57, vb_X11_line_62, vb_X11_line_67, vb_X11_line_75, xI_0, xI_1, xI_4, xI_7, xI_38, xI_49, xI_53, xI_60, xI_61, xI_62, xI_105, xw_X11_line_0, xw_X11_line_10, xw_X11_line_52, xw_X11_line_57, xw_X11_line_62, xw_X11_line_67, xw_X11_line_75, zw_lit, xB_c, xB_s, xB_n, i1_c, j2_c, k1_c, jJ_e, xlg, xls, xla, xpd, ppush, zw_m1, zw_m2, zw_m3, gf_1_3, gf_5_0, gf_5_1, gf_5_2, gf_5_3, gf_11_0, tg_11_0, tg_1_3, tg_5_0, tg_5_1, tg_5_2, tg_5_3, gv_1_3, gv_0_0, xD1, xD2, xD3, xD4, xD5, xD6, xb1_0, z2, k0, k1, k2, k3, gv47, c, sw, g3, l3.1] at h
      exact ⟨_, _, h, by rw [c]; unfold liQ; rw [if_pos hq]; rfl, CQ_refl hR hM⟩
    have sw := sw_X11_line_d (x := w) (by omega)
    have h := call_runP 4 vm_X11_line h
    have h := xw_top (hd := []) 9 xD6_ok xc_X11_line xa_X11_line (t := 0) rfl h
    simp (maxDischargeDepth := 12) -implicitDefEqProofs [vb_X11_line_0, vb_X11_line_10, vb_X11_line_52, vb_X11_line_57, vb_X11_line_62, vb_X11_line_67, vb_X11_line_75, xI_0, xI_1, xI_4, xI_7, xI_38, xI_49, xI_53, xI_60, xI_61, xI_62, xI_105, xw_X11_line_0, xw_X11_line_10, xw_X11_line_52, xw_X11_line_57, xw_X11_line_62, xw_X11_line_67, xw_X11_line_75, zw_lit, xB_c, xB_s, xB_n, i1_c, j2_c, k1_c, jJ_e, xlg, xls, xla, xpd, ppush, zw_m1, zw_m2, zw_m3, gf_1_3, gf_5_0, gf_5_1, gf_5_2, gf_5_3, gf_11_0, tg_11_0, tg_1_3, tg_5_0, tg_5_1, tg_5_2, tg_5_3, gv_1_3, gv_0_0, xD1, xD2, xD3, xD4, xD5, xD6, xb1_0, z2, k0, k1, k2, k3, gv47, sw, g3] at h
    obtain ⟨r, H1, ⟨rfl, rfl⟩, g⟩ := xc_use h (sp_X8_octetAt _ w _ _ H l3)
    simp (maxDischargeDepth := 12) -implicitDefEqProofs [vb_X11_line_0, vb_X11_line_10, vb_X11_line_52, vb_X11_line_57, vb_X11_line_62, vb_X11_line_67, vb_X11_line_75, xI_0, xI_1, xI_4, xI_7, xI_38, xI_49, xI_53, xI_60, xI_61, xI_62, xI_105, xw_X11_line_0, xw_X11_line_10, xw_X11_line_52, xw_X11_line_57, xw_X11_line_62, xw_X11_line_67, xw_X11_line_75, zw_lit, xB_c, xB_s, xB_n, i1_c, j2_c, k1_c, jJ_e, xlg, xls, xla, xpd, ppush, zw_m1, zw_m2, zw_m3, gf_1_3, gf_5_0, gf_5_1, gf_5_2, gf_5_3, gf_11_0, tg_11_0, tg_1_3, tg_5_0, tg_5_1, tg_5_2, tg_5_3, gv_1_3, gv_0_0, xD1, xD2, xD3, xD4, xD5, xD6, xb1_0] at g
    have v : liQ (S 0) k w = if 10 ≤ w ∧ w ≤ 9 + S 0 (404 + 12 * k + 3) then S 0 (404 + 12 * k + 4 + (w - 10)) else -1 := by
      unfold liQ
      rw [if_pos hq, if_neg (by omega), if_neg (by omega), if_neg (by omega), if_neg (by omega)]
    exact ⟨_, _, g, by rw [v], CQ_refl hR hM⟩
  · by_cases k0 : 0 ≤ k
    · have k1 : ¬ k ≤ H 1 4 - 1 := by omega
      have k2 : ¬ k < 0 := by omega
      have k3 : H 1 4 - 1 < k := by omega
      have h := call_runP 4 vm_X11_line h
      have h := xw_top (hd := []) 9 xD6_ok xc_X11_line xa_X11_line (t := 0) rfl h
      simp (maxDischargeDepth := 12) -implicitDefEqProofs [vb_X11_line_0, vb_X11_line_10, vb_X11_line_52, vb_X11_line_57, vb_X11_line_62, vb_X11_line_67, vb_X11_line_75, xI_0, xI_1, xI_4, xI_7, xI_38, xI_49, xI_53, xI_60, xI_61, xI_62, xI_105, xw_X11_line_0, xw_X11_line_10, xw_X11_line_52, xw_X11_line_57, xw_X11_line_62, xw_X11_line_67, xw_X11_line_75, zw_lit, xB_c, xB_s, xB_n, i1_c, j2_c, k1_c, jJ_e, xlg, xls, xla, xpd, ppush, zw_m1, zw_m2, zw_m3, gf_1_3, gf_5_0, gf_5_1, gf_5_2, gf_5_3, gf_11_0, tg_11_0, tg_1_3, tg_5_0, tg_5_1, tg_5_2, tg_5_3, gv_1_3, gv_0_0, xD1, xD2, xD3, xD4, xD5, xD6, xb1_0, z0, z2, k0, k1, k2, k3] at h
      exact ⟨_, _, h, by unfold liQ; rw [if_neg (by omega)], CQ_refl hR hM⟩
    · have k2 : k < 0 := by omega
      have h := call_runP 4 vm_X11_line h
      have h := xw_top (hd := []) 9 xD6_ok xc_X11_line xa_X11_line (t := 0) rfl h
      simp (maxDischargeDepth := 12) -implicitDefEqProofs [vb_X11_line_0, vb_X11_line_10, vb_X11_line_52, vb_X11_line_57, vb_X11_line_62, vb_X11_line_67, vb_X11_line_75, xI_0, xI_1, xI_4, xI_7, xI_38, xI_49, xI_53, xI_60, xI_61, xI_62, xI_105, xw_X11_line_0, xw_X11_line_10, xw_X11_line_52, xw_X11_line_57, xw_X11_line_62, xw_X11_line_67, xw_X11_line_75, zw_lit, xB_c, xB_s, xB_n, i1_c, j2_c, k1_c, jJ_e, xlg, xls, xla, xpd, ppush, zw_m1, zw_m2, zw_m3, gf_1_3, gf_5_0, gf_5_1, gf_5_2, gf_5_3, gf_11_0, tg_11_0, tg_1_3, tg_5_0, tg_5_1, tg_5_2, tg_5_3, gv_1_3, gv_0_0, xD1, xD2, xD3, xD4, xD5, xD6, xb1_0, z0, z2, k0, k2] at h
      exact ⟨_, _, h, by unfold liQ; rw [if_neg (by omega)], CQ_refl hR hM⟩
set_option maxRecDepth 100000 in
theorem sp_c_gone (b : Int) (S : Int → Int → Int) (n : Int) (H : PH) (hR : RC H S n) (hM : MCC (S 0) H) : SPEC 138 [(2, 0), (0, b)] H (fun r H' => r = some (0, gnQ (S 0) b) ∧ CQ H H' S n) := by
  intro E n' res h
  obtain ⟨e0, e2, z0, z2, a0, a2⟩ := RC_12 hR
  by_cases qb : 0 ≤ b ∧ b ≤ H 1 2 - 1
  · have b0 := qb.1
    have b1 := qb.2
    have b2 : ¬ b < 0 := by omega
    have b3 : ¬ H 1 2 - 1 < b := by omega
    have hq : 0 ≤ b ∧ b < S 0 0 := by omega
    have g46 : gv H 46 b = 57 + 3 * b := gv46 b0 (by omega)
    obtain ⟨g6, g7, g0, g1, g2, g3, g4, g5⟩ := KB_f (KB_of (b := b) b0 (by omega))
    obtain ⟨t1, t2, t3, t4, t5, t6, t7⟩ := hR.1.1.2.1 b b0 hq.2
    have i0c : 0 ≤ 57 + 3 * b + 1 := by omega
    have i0d : 0 ≤ 57 + 3 * b + 2 := by omega
    have h := call_runP 2 vm_X11_gone h
    have h := xw_top (hd := []) 5 xD6_ok xc_X11_gone xa_X11_gone (t := 0) rfl h
    simp (maxDischargeDepth := 12) -implicitDefEqProofs [vb_X11_gone_0, vb_X11_gone_23, vb_X11_gone_24, xI_0, xI_1, xI_7, xI_36, xI_37, xI_49, xI_53, xI_61, xI_62, xw_X11_gone_0, xw_X11_gone_23, xw_X11_gone_24, zw_lit, xB_c, xB_s, xB_n, i1_c, j2_c, k1_c, jJ_e, xlg, xls, xla, xpd, ppush, zw_m1, zw_m2, zw_m3, gf_0_4, gf_1_1, gf_11_0, tg_0_4, tg_11_0, tg_1_1, gv_1_1, gv_0_0, xD1, xD2, xD3, xD4, xD5, xD6, xb1_0, z0, b0, b1, b2, b3, g46, g4, ← t5] at h
    exact ⟨_, _, h, by unfold gnQ; rw [if_pos hq], CQ_refl hR hM⟩
  · by_cases b0 : 0 ≤ b
    · have b1 : ¬ b ≤ H 1 2 - 1 := by omega
      have b2 : ¬ b < 0 := by omega
      have b3 : H 1 2 - 1 < b := by omega
      have h := call_runP 2 vm_X11_gone h
      have h := xw_top (hd := []) 5 xD6_ok xc_X11_gone xa_X11_gone (t := 0) rfl h
      simp (maxDischargeDepth := 12) -implicitDefEqProofs [vb_X11_gone_0, vb_X11_gone_23, vb_X11_gone_24, xI_0, xI_1, xI_7, xI_36, xI_37, xI_49, xI_53, xI_61, xI_62, xw_X11_gone_0, xw_X11_gone_23, xw_X11_gone_24, zw_lit, xB_c, xB_s, xB_n, i1_c, j2_c, k1_c, jJ_e, xlg, xls, xla, xpd, ppush, zw_m1, zw_m2, zw_m3, gf_0_4, gf_1_1, gf_11_0, tg_0_4, tg_11_0, tg_1_1, gv_1_1, gv_0_0, xD1, xD2, xD3, xD4, xD5, xD6, xb1_0, z0, z2, b0, b1, b2, b3] at h
      exact ⟨_, _, h, by unfold gnQ; rw [if_neg (by omega)], CQ_refl hR hM⟩
    · have b2 : b < 0 := by omega
      have h := call_runP 2 vm_X11_gone h
      have h := xw_top (hd := []) 5 xD6_ok xc_X11_gone xa_X11_gone (t := 0) rfl h
      simp (maxDischargeDepth := 12) -implicitDefEqProofs [vb_X11_gone_0, vb_X11_gone_23, vb_X11_gone_24, xI_0, xI_1, xI_7, xI_36, xI_37, xI_49, xI_53, xI_61, xI_62, xw_X11_gone_0, xw_X11_gone_23, xw_X11_gone_24, zw_lit, xB_c, xB_s, xB_n, i1_c, j2_c, k1_c, jJ_e, xlg, xls, xla, xpd, ppush, zw_m1, zw_m2, zw_m3, gf_0_4, gf_1_1, gf_11_0, tg_0_4, tg_11_0, tg_1_1, gv_1_1, gv_0_0, xD1, xD2, xD3, xD4, xD5, xD6, xb1_0, z0, z2, b0, b2] at h
      exact ⟨_, _, h, by unfold gnQ; rw [if_neg (by omega)], CQ_refl hR hM⟩
set_option maxRecDepth 100000 in
theorem sp_c_remarked (b i w : Int) (S : Int → Int → Int) (n : Int) (H : PH) (hR : RC H S n) (hM : MCC (S 0) H) : SPEC 122 [(2, 0), (0, b), (0, i), (0, w)] H (fun r H' => r = some (0, rmQ (S 0) b i w) ∧ CQ H H' S n) := by
  intro E n' res h
  obtain ⟨e0, e2, z0, z2, a0, a2⟩ := RC_12 hR
  by_cases qb : 0 ≤ b ∧ b ≤ H 1 2 - 1
  · have b0 := qb.1
    have b1 := qb.2
    have b2 : ¬ b < 0 := by omega
    have b3 : ¬ H 1 2 - 1 < b := by omega
    have hq : 0 ≤ b ∧ b < S 0 0 := by omega
    have g46 : gv H 46 b = 57 + 3 * b := gv46 b0 (by omega)
    obtain ⟨g6, g7, g0, g1, g2, g3, g4, g5⟩ := KB_f (KB_of (b := b) b0 (by omega))
    obtain ⟨t1, t2, t3, t4, t5, t6, t7⟩ := hR.1.1.2.1 b b0 hq.2
    have i0c : 0 ≤ 57 + 3 * b + 1 := by omega
    have i0d : 0 ≤ 57 + 3 * b + 2 := by omega
    have r6 := (RC_sz hR).1.2.2.2.2.1 b b0 (by omega)
    have z5 : zw (H (57 + 3 * b) 5 - 1) = H (57 + 3 * b) 5 - 1 := zw_lit (by omega) (by omega)
    by_cases qi : 0 ≤ i ∧ i ≤ H (57 + 3 * b) 5 - 1
    · have i0 := qi.1
      have i1 := qi.2
      have i2 : ¬ i < 0 := by omega
      have i3 : ¬ H (57 + 3 * b) 5 - 1 < i := by omega
      by_cases qw : 0 ≤ w ∧ w ≤ 1
      · have w0 := qw.1
        have w1 := qw.2
        have w2 : ¬ w < 0 := by omega
        have w3 : ¬ 1 < w := by omega
        obtain ⟨y1, y2⟩ := t7 i i0 (by omega)
        have hq2 : (0 ≤ b ∧ b < S 0 0) ∧ (0 ≤ i ∧ i < S 0 (92 + 26 * b + 13)) ∧ (0 ≤ w ∧ w ≤ 1) := by omega
        by_cases c : w = 0
        · have h := call_runP 5 vm_X11_remarked h
          have h := xw_top (hd := []) 7 xD6_ok xc_X11_remarked xa_X11_remarked (t := 0) rfl h
          simp (maxDischargeDepth := 12) -implicitDefEqProofs [vb_X11_remarked_0, vb_X11_remarked_39, vb_X11_remarked_41, vb_X11_remarked_66, vb_X11_remarked_73, xI_0, xI_1, xI_4, xI_7, xI_15, xI_36, xI_37, xI_38, xI_49, xI_51, xI_53, xI_60, xI_61, xI_62, xw_X11_remarked_0, xw_X11_remarked_39, xw_X11_remarked_41, xw_X11_remarked_66, xw_X11_remarked_73, zw_lit, xB_c, xB_s, xB_n, i1_c, j2_c, k1_c, jJ_e, xlg, xls, xla, xpd, ppush, zw_m1, zw_m2, zw_m3, gf_0_5, gf_0_6, gf_0_7, gf_1_1, gf_11_0, tg_0_5, tg_0_6, tg_0_7, tg_11_0, tg_1_1, gv_1_1, gv_0_0, xD1, xD2, xD3, xD4, xD5, xD6, xb1_0, z0, b0, b1, b2, b3, g46, g5, z5, i0, i1, i2, i3, c, g6, i0c, ← y1] at h
          exact ⟨_, _, h, by unfold rmQ; rw [if_pos hq2, if_pos c], CQ_refl hR hM⟩
        · have c' : w = 1 := by omega
          have h := call_runP 5 vm_X11_remarked h
          have h := xw_top (hd := []) 7 xD6_ok xc_X11_remarked xa_X11_remarked (t := 0) rfl h
          simp (maxDischargeDepth := 12) -implicitDefEqProofs [vb_X11_remarked_0, vb_X11_remarked_39, vb_X11_remarked_41, vb_X11_remarked_66, vb_X11_remarked_73, xI_0, xI_1, xI_4, xI_7, xI_15, xI_36, xI_37, xI_38, xI_49, xI_51, xI_53, xI_60, xI_61, xI_62, xw_X11_remarked_0, xw_X11_remarked_39, xw_X11_remarked_41, xw_X11_remarked_66, xw_X11_remarked_73, zw_lit, xB_c, xB_s, xB_n, i1_c, j2_c, k1_c, jJ_e, xlg, xls, xla, xpd, ppush, zw_m1, zw_m2, zw_m3, gf_0_5, gf_0_6, gf_0_7, gf_1_1, gf_11_0, tg_0_5, tg_0_6, tg_0_7, tg_11_0, tg_1_1, gv_1_1, gv_0_0, xD1, xD2, xD3, xD4, xD5, xD6, xb1_0, z0, b0, b1, b2, b3, g46, g5, z5, i0, i1, i2, i3, c', g7, i0d, ← y2] at h
          exact ⟨_, _, h, by unfold rmQ; rw [if_pos hq2, if_neg c], CQ_refl hR hM⟩
      · by_cases w0 : 0 ≤ w
        · have w1 : ¬ w ≤ 1 := by omega
          have w2 : ¬ w < 0 := by omega
          have w3 : 1 < w := by omega
          have h := call_runP 5 vm_X11_remarked h
          have h := xw_top (hd := []) 7 xD6_ok xc_X11_remarked xa_X11_remarked (t := 0) rfl h
          simp (maxDischargeDepth := 12) -implicitDefEqProofs [vb_X11_remarked_0, vb_X11_remarked_39, vb_X11_remarked_41, vb_X11_remarked_66, vb_X11_remarked_73, xI_0, xI_1, xI_4, xI_7, xI_15, xI_36, xI_37, xI_38, xI_49, xI_51, xI_53, xI_60, xI_61, xI_62, xw_X11_remarked_0, xw_X11_remarked_39, xw_X11_remarked_41, xw_X11_remarked_66, xw_X11_remarked_73, zw_lit, xB_c, xB_s, xB_n, i1_c, j2_c, k1_c, jJ_e, xlg, xls, xla, xpd, ppush, zw_m1, zw_m2, zw_m3, gf_0_5, gf_0_6, gf_0_7, gf_1_1, gf_11_0, tg_0_5, tg_0_6, tg_0_7, tg_11_0, tg_1_1, gv_1_1, gv_0_0, xD1, xD2, xD3, xD4, xD5, xD6, xb1_0, z0, z2, b0, b1, b2, b3, g46, g5, z5, i0, i1, i2, i3, w0, w1, w2, w3] at h
          exact ⟨_, _, h, by unfold rmQ; rw [if_neg (by omega)], CQ_refl hR hM⟩
        · have w2 : w < 0 := by omega
          have h := call_runP 5 vm_X11_remarked h
          have h := xw_top (hd := []) 7 xD6_ok xc_X11_remarked xa_X11_remarked (t := 0) rfl h
          simp (maxDischargeDepth := 12) -implicitDefEqProofs [vb_X11_remarked_0, vb_X11_remarked_39, vb_X11_remarked_41, vb_X11_remarked_66, vb_X11_remarked_73, xI_0, xI_1, xI_4, xI_7, xI_15, xI_36, xI_37, xI_38, xI_49, xI_51, xI_53, xI_60, xI_61, xI_62, xw_X11_remarked_0, xw_X11_remarked_39, xw_X11_remarked_41, xw_X11_remarked_66, xw_X11_remarked_73, zw_lit, xB_c, xB_s, xB_n, i1_c, j2_c, k1_c, jJ_e, xlg, xls, xla, xpd, ppush, zw_m1, zw_m2, zw_m3, gf_0_5, gf_0_6, gf_0_7, gf_1_1, gf_11_0, tg_0_5, tg_0_6, tg_0_7, tg_11_0, tg_1_1, gv_1_1, gv_0_0, xD1, xD2, xD3, xD4, xD5, xD6, xb1_0, z0, z2, b0, b1, b2, b3, g46, g5, z5, i0, i1, i2, i3, w0, w2] at h
          exact ⟨_, _, h, by unfold rmQ; rw [if_neg (by omega)], CQ_refl hR hM⟩
    · by_cases i0 : 0 ≤ i
      · have i1 : ¬ i ≤ H (57 + 3 * b) 5 - 1 := by omega
        have i2 : ¬ i < 0 := by omega
        have i3 : H (57 + 3 * b) 5 - 1 < i := by omega
        have h := call_runP 5 vm_X11_remarked h
        have h := xw_top (hd := []) 7 xD6_ok xc_X11_remarked xa_X11_remarked (t := 0) rfl h
        simp (maxDischargeDepth := 12) -implicitDefEqProofs [vb_X11_remarked_0, vb_X11_remarked_39, vb_X11_remarked_41, vb_X11_remarked_66, vb_X11_remarked_73, xI_0, xI_1, xI_4, xI_7, xI_15, xI_36, xI_37, xI_38, xI_49, xI_51, xI_53, xI_60, xI_61, xI_62, xw_X11_remarked_0, xw_X11_remarked_39, xw_X11_remarked_41, xw_X11_remarked_66, xw_X11_remarked_73, zw_lit, xB_c, xB_s, xB_n, i1_c, j2_c, k1_c, jJ_e, xlg, xls, xla, xpd, ppush, zw_m1, zw_m2, zw_m3, gf_0_5, gf_0_6, gf_0_7, gf_1_1, gf_11_0, tg_0_5, tg_0_6, tg_0_7, tg_11_0, tg_1_1, gv_1_1, gv_0_0, xD1, xD2, xD3, xD4, xD5, xD6, xb1_0, z0, z2, b0, b1, b2, b3, g46, g5, z5, i0, i1, i2, i3] at h
        exact ⟨_, _, h, by unfold rmQ; rw [if_neg (by omega)], CQ_refl hR hM⟩
      · have i2 : i < 0 := by omega
        have h := call_runP 5 vm_X11_remarked h
        have h := xw_top (hd := []) 7 xD6_ok xc_X11_remarked xa_X11_remarked (t := 0) rfl h
        simp (maxDischargeDepth := 12) -implicitDefEqProofs [vb_X11_remarked_0, vb_X11_remarked_39, vb_X11_remarked_41, vb_X11_remarked_66, vb_X11_remarked_73, xI_0, xI_1, xI_4, xI_7, xI_15, xI_36, xI_37, xI_38, xI_49, xI_51, xI_53, xI_60, xI_61, xI_62, xw_X11_remarked_0, xw_X11_remarked_39, xw_X11_remarked_41, xw_X11_remarked_66, xw_X11_remarked_73, zw_lit, xB_c, xB_s, xB_n, i1_c, j2_c, k1_c, jJ_e, xlg, xls, xla, xpd, ppush, zw_m1, zw_m2, zw_m3, gf_0_5, gf_0_6, gf_0_7, gf_1_1, gf_11_0, tg_0_5, tg_0_6, tg_0_7, tg_11_0, tg_1_1, gv_1_1, gv_0_0, xD1, xD2, xD3, xD4, xD5, xD6, xb1_0, z0, z2, b0, b1, b2, b3, g46, g5, z5, i0, i2] at h
        exact ⟨_, _, h, by unfold rmQ; rw [if_neg (by omega)], CQ_refl hR hM⟩
  · by_cases b0 : 0 ≤ b
    · have b1 : ¬ b ≤ H 1 2 - 1 := by omega
      have b2 : ¬ b < 0 := by omega
      have b3 : H 1 2 - 1 < b := by omega
      have h := call_runP 5 vm_X11_remarked h
      have h := xw_top (hd := []) 7 xD6_ok xc_X11_remarked xa_X11_remarked (t := 0) rfl h
      simp (maxDischargeDepth := 12) -implicitDefEqProofs [vb_X11_remarked_0, vb_X11_remarked_39, vb_X11_remarked_41, vb_X11_remarked_66, vb_X11_remarked_73, xI_0, xI_1, xI_4, xI_7, xI_15, xI_36, xI_37, xI_38, xI_49, xI_51, xI_53, xI_60, xI_61, xI_62, xw_X11_remarked_0, xw_X11_remarked_39, xw_X11_remarked_41, xw_X11_remarked_66, xw_X11_remarked_73, zw_lit, xB_c, xB_s, xB_n, i1_c, j2_c, k1_c, jJ_e, xlg, xls, xla, xpd, ppush, zw_m1, zw_m2, zw_m3, gf_0_5, gf_0_6, gf_0_7, gf_1_1, gf_11_0, tg_0_5, tg_0_6, tg_0_7, tg_11_0, tg_1_1, gv_1_1, gv_0_0, xD1, xD2, xD3, xD4, xD5, xD6, xb1_0, z0, z2, b0, b1, b2, b3] at h
      exact ⟨_, _, h, by unfold rmQ; rw [if_neg (by omega)], CQ_refl hR hM⟩
    · have b2 : b < 0 := by omega
      have h := call_runP 5 vm_X11_remarked h
      have h := xw_top (hd := []) 7 xD6_ok xc_X11_remarked xa_X11_remarked (t := 0) rfl h
      simp (maxDischargeDepth := 12) -implicitDefEqProofs [vb_X11_remarked_0, vb_X11_remarked_39, vb_X11_remarked_41, vb_X11_remarked_66, vb_X11_remarked_73, xI_0, xI_1, xI_4, xI_7, xI_15, xI_36, xI_37, xI_38, xI_49, xI_51, xI_53, xI_60, xI_61, xI_62, xw_X11_remarked_0, xw_X11_remarked_39, xw_X11_remarked_41, xw_X11_remarked_66, xw_X11_remarked_73, zw_lit, xB_c, xB_s, xB_n, i1_c, j2_c, k1_c, jJ_e, xlg, xls, xla, xpd, ppush, zw_m1, zw_m2, zw_m3, gf_0_5, gf_0_6, gf_0_7, gf_1_1, gf_11_0, tg_0_5, tg_0_6, tg_0_7, tg_11_0, tg_1_1, gv_1_1, gv_0_0, xD1, xD2, xD3, xD4, xD5, xD6, xb1_0, z0, z2, b0, b2] at h
      exact ⟨_, _, h, by unfold rmQ; rw [if_neg (by omega)], CQ_refl hR hM⟩
set_option maxRecDepth 100000 in
theorem sp_m_bill (b w : Int) (H : PH) (ok : OKR (H 591)) : SPEC 211 [(2, 590), (0, b), (0, w)] H (fun r H' => r = some (0, biQ (H 591) b w) ∧ MQs H H') := by
  intro E n' res h
  have a0 := ok.1.1
  have a2 := ok.1.2.2.1
  have os := ok.2.2.1
  unfold OKS at os
  have z0 : zw (H 591 0 - 1) = H 591 0 - 1 := zw_lit (by omega) (by omega)
  have z2 : zw (H 591 2 - 1) = H 591 2 - 1 := zw_lit (by omega) (by omega)
  by_cases qb : 0 ≤ b ∧ b ≤ H 591 0 - 1
  · have b0 := qb.1
    have b1 := qb.2
    have b2 : ¬ b < 0 := by omega
    have b3 : ¬ H 591 0 - 1 < b := by omega
    have hq : 0 ≤ b ∧ b < H 591 0 := by omega
    have zb1 : zw (26 * b) = 26 * b := zw_lit (by omega) (by omega)
    have zb2 : zw (92 + 26 * b) = 92 + 26 * b := zw_lit (by omega) (by omega)
    have zb3 : zw (92 + 26 * b + 9) = 92 + 26 * b + 9 := zw_lit (by omega) (by omega)
    have zb4 : zw (92 + 26 * b + 10) = 92 + 26 * b + 10 := zw_lit (by omega) (by omega)
    have zb5 : zw (92 + 26 * b + 11) = 92 + 26 * b + 11 := zw_lit (by omega) (by omega)
    have zb6 : zw (92 + 26 * b + 12) = 92 + 26 * b + 12 := zw_lit (by omega) (by omega)
    have zb7 : zw (92 + 26 * b + 13) = 92 + 26 * b + 13 := zw_lit (by omega) (by omega)
    have zb8 : zw (92 + 26 * b + 14) = 92 + 26 * b + 14 := zw_lit (by omega) (by omega)
    have zb9 : zw (92 + 26 * b + 1) = 92 + 26 * b + 1 := zw_lit (by omega) (by omega)
    have ln := ok.1.2.2.2.1 b b0 (by omega)
    by_cases c : w = 0
    · have sw := sw_X12_bill_0
      have h := call_runP 4 vm_X12_bill h
      have h := xw_top (hd := []) 12 xD6_ok xc_X12_bill xa_X12_bill (t := 0) rfl h
      simp (maxDischargeDepth := 12) -implicitDefEqProofs [vb_X12_bill_0, vb_X12_bill_10, vb_X12_bill_52, vb_X12_bill_62, vb_X12_bill_72, vb_X12_bill_81, vb_X12_bill_91, vb_X12_bill_101, vb_X12_bill_137, vb_X12_bill_138, xI_0, xI_1, xI_3, xI_7, xI_8, xI_14, xI_15, xI_36, xI_37, xI_38, xI_49, xI_51, xI_60, xI_61, xI_62, xI_111, xw_X12_bill_0, xw_X12_bill_10, xw_X12_bill_52, xw_X12_bill_62, xw_X12_bill_72, xw_X12_bill_81, xw_X12_bill_91, xw_X12_bill_101, xw_X12_bill_137, xw_X12_bill_138, zw_lit, xB_c, xB_s, xB_n, i1_c, j2_c, k1_c, jJ_e, xlg, xls, xla, xpd, ppush, zw_m1, zw_m2, zw_m3, gf_12_0, tg_12_0, gv_590_0, xD1, xD2, xD3, xD4, xD5, xD6, xb1_0, z0, b0, b1, b2, b3, zb1, zb2, zb3, zb4, zb5, zb6, zb7, zb8, zb9, c, sw] at h
      exact ⟨_, _, h, by rw [c]; unfold biQ; rw [if_pos hq]; rfl, MQs_refl⟩
    by_cases c : w = 1
    · have sw := sw_X12_bill_1
      have h := call_runP 4 vm_X12_bill h
      have h := xw_top (hd := []) 12 xD6_ok xc_X12_bill xa_X12_bill (t := 0) rfl h
      simp (maxDischargeDepth := 12) -implicitDefEqProofs [vb_X12_bill_0, vb_X12_bill_10, vb_X12_bill_52, vb_X12_bill_62, vb_X12_bill_72, vb_X12_bill_81, vb_X12_bill_91, vb_X12_bill_101, vb_X12_bill_137, vb_X12_bill_138, xI_0, xI_1, xI_3, xI_7, xI_8, xI_14, xI_15, xI_36, xI_37, xI_38, xI_49, xI_51, xI_60, xI_61, xI_62, xI_111, xw_X12_bill_0, xw_X12_bill_10, xw_X12_bill_52, xw_X12_bill_62, xw_X12_bill_72, xw_X12_bill_81, xw_X12_bill_91, xw_X12_bill_101, xw_X12_bill_137, xw_X12_bill_138, zw_lit, xB_c, xB_s, xB_n, i1_c, j2_c, k1_c, jJ_e, xlg, xls, xla, xpd, ppush, zw_m1, zw_m2, zw_m3, gf_12_0, tg_12_0, gv_590_0, xD1, xD2, xD3, xD4, xD5, xD6, xb1_0, z0, b0, b1, b2, b3, zb1, zb2, zb3, zb4, zb5, zb6, zb7, zb8, zb9, c, sw] at h
      exact ⟨_, _, h, by rw [c]; unfold biQ; rw [if_pos hq]; rfl, MQs_refl⟩
    by_cases c : w = 2
    · have sw := sw_X12_bill_2
      have h := call_runP 4 vm_X12_bill h
      have h := xw_top (hd := []) 12 xD6_ok xc_X12_bill xa_X12_bill (t := 0) rfl h
      simp (maxDischargeDepth := 12) -implicitDefEqProofs [vb_X12_bill_0, vb_X12_bill_10, vb_X12_bill_52, vb_X12_bill_62, vb_X12_bill_72, vb_X12_bill_81, vb_X12_bill_91, vb_X12_bill_101, vb_X12_bill_137, vb_X12_bill_138, xI_0, xI_1, xI_3, xI_7, xI_8, xI_14, xI_15, xI_36, xI_37, xI_38, xI_49, xI_51, xI_60, xI_61, xI_62, xI_111, xw_X12_bill_0, xw_X12_bill_10, xw_X12_bill_52, xw_X12_bill_62, xw_X12_bill_72, xw_X12_bill_81, xw_X12_bill_91, xw_X12_bill_101, xw_X12_bill_137, xw_X12_bill_138, zw_lit, xB_c, xB_s, xB_n, i1_c, j2_c, k1_c, jJ_e, xlg, xls, xla, xpd, ppush, zw_m1, zw_m2, zw_m3, gf_12_0, tg_12_0, gv_590_0, xD1, xD2, xD3, xD4, xD5, xD6, xb1_0, z0, b0, b1, b2, b3, zb1, zb2, zb3, zb4, zb5, zb6, zb7, zb8, zb9, c, sw] at h
      exact ⟨_, _, h, by rw [c]; unfold biQ; rw [if_pos hq]; rfl, MQs_refl⟩
    by_cases c : w = 3
    · have sw := sw_X12_bill_3
      have h := call_runP 4 vm_X12_bill h
      have h := xw_top (hd := []) 12 xD6_ok xc_X12_bill xa_X12_bill (t := 0) rfl h
      simp (maxDischargeDepth := 12) -implicitDefEqProofs [vb_X12_bill_0, vb_X12_bill_10, vb_X12_bill_52, vb_X12_bill_62, vb_X12_bill_72, vb_X12_bill_81, vb_X12_bill_91, vb_X12_bill_101, vb_X12_bill_137, vb_X12_bill_138, xI_0, xI_1, xI_3, xI_7, xI_8, xI_14, xI_15, xI_36, xI_37, xI_38, xI_49, xI_51, xI_60, xI_61, xI_62, xI_111, xw_X12_bill_0, xw_X12_bill_10, xw_X12_bill_52, xw_X12_bill_62, xw_X12_bill_72, xw_X12_bill_81, xw_X12_bill_91, xw_X12_bill_101, xw_X12_bill_137, xw_X12_bill_138, zw_lit, xB_c, xB_s, xB_n, i1_c, j2_c, k1_c, jJ_e, xlg, xls, xla, xpd, ppush, zw_m1, zw_m2, zw_m3, gf_12_0, tg_12_0, gv_590_0, xD1, xD2, xD3, xD4, xD5, xD6, xb1_0, z0, b0, b1, b2, b3, zb1, zb2, zb3, zb4, zb5, zb6, zb7, zb8, zb9, c, sw] at h
      exact ⟨_, _, h, by rw [c]; unfold biQ; rw [if_pos hq]; rfl, MQs_refl⟩
    by_cases c : w = 4
    · have sw := sw_X12_bill_4
      have h := call_runP 4 vm_X12_bill h
      have h := xw_top (hd := []) 12 xD6_ok xc_X12_bill xa_X12_bill (t := 0) rfl h
      simp (maxDischargeDepth := 12) -implicitDefEqProofs [vb_X12_bill_0, vb_X12_bill_10, vb_X12_bill_52, vb_X12_bill_62, vb_X12_bill_72, vb_X12_bill_81, vb_X12_bill_91, vb_X12_bill_101, vb_X12_bill_137, vb_X12_bill_138, xI_0, xI_1, xI_3, xI_7, xI_8, xI_14, xI_15, xI_36, xI_37, xI_38, xI_49, xI_51, xI_60, xI_61, xI_62, xI_111, xw_X12_bill_0, xw_X12_bill_10, xw_X12_bill_52, xw_X12_bill_62, xw_X12_bill_72, xw_X12_bill_81, xw_X12_bill_91, xw_X12_bill_101, xw_X12_bill_137, xw_X12_bill_138, zw_lit, xB_c, xB_s, xB_n, i1_c, j2_c, k1_c, jJ_e, xlg, xls, xla, xpd, ppush, zw_m1, zw_m2, zw_m3, gf_12_0, tg_12_0, gv_590_0, xD1, xD2, xD3, xD4, xD5, xD6, xb1_0, z0, b0, b1, b2, b3, zb1, zb2, zb3, zb4, zb5, zb6, zb7, zb8, zb9, c, sw] at h
      exact ⟨_, _, h, by rw [c]; unfold biQ; rw [if_pos hq]; rfl, MQs_refl⟩
    have zn : zw (9 + H 591 (92 + 26 * b)) = 9 + H 591 (92 + 26 * b) := zw_lit (by omega) (by omega)
    have sw := sw_X12_bill_d (x := w) (by omega)
    by_cases qw : 10 ≤ w ∧ w ≤ 9 + H 591 (92 + 26 * b)
    · have w0 := qw.1
      have w1 := qw.2
      have w2 : ¬ w < 10 := by omega
      have w3 : ¬ 9 + H 591 (92 + 26 * b) < w := by omega
      have zw1 : zw (92 + 26 * b + 1 + w) = 92 + 26 * b + 1 + w := zw_lit (by omega) (by omega)
      have zw2 : zw (92 + 26 * b + 1 + w - 10) = 92 + 26 * b + 1 + (w - 10) := by rw [show 92 + 26 * b + 1 + w - 10 = 92 + 26 * b + 1 + (w - 10) by omega]; exact zw_lit (by omega) (by omega)
      have h := call_runP 4 vm_X12_bill h
      have h := xw_top (hd := []) 12 xD6_ok xc_X12_bill xa_X12_bill (t := 0) rfl h
      simp (maxDischargeDepth := 12) -implicitDefEqProofs [vb_X12_bill_0, vb_X12_bill_10, vb_X12_bill_52, vb_X12_bill_62, vb_X12_bill_72, vb_X12_bill_81, vb_X12_bill_91, vb_X12_bill_101, vb_X12_bill_137, vb_X12_bill_138, xI_0, xI_1, xI_3, xI_7, xI_8, xI_14, xI_15, xI_36, xI_37, xI_38, xI_49, xI_51, xI_60, xI_61, xI_62, xI_111, xw_X12_bill_0, xw_X12_bill_10, xw_X12_bill_52, xw_X12_bill_62, xw_X12_bill_72, xw_X12_bill_81, xw_X12_bill_91, xw_X12_bill_101, xw_X12_bill_137, xw_X12_bill_138, zw_lit, xB_c, xB_s, xB_n, i1_c, j2_c, k1_c, jJ_e, xlg, xls, xla, xpd, ppush, zw_m1, zw_m2, zw_m3, gf_12_0, tg_12_0, gv_590_0, xD1, xD2, xD3, xD4, xD5, xD6, xb1_0, z0, b0, b1, b2, b3, zb1, zb2, zb3, zb4, zb5, zb6, zb7, zb8, zb9, sw, zn, w0, w1, w2, w3, zw1, zw2] at h
      exact ⟨_, H, h, by unfold biQ; rw [if_pos hq, if_neg (by omega), if_neg (by omega), if_neg (by omega), if_neg (by omega), if_neg (by omega), if_pos qw], MQs_refl⟩
    · by_cases w0 : 10 ≤ w
      · have w1 : ¬ w ≤ 9 + H 591 (92 + 26 * b) := by omega
        have w2 : ¬ w < 10 := by omega
        have w3 : 9 + H 591 (92 + 26 * b) < w := by omega
        have h := call_runP 4 vm_X12_bill h
        have h := xw_top (hd := []) 12 xD6_ok xc_X12_bill xa_X12_bill (t := 0) rfl h
        simp (maxDischargeDepth := 12) -implicitDefEqProofs [vb_X12_bill_0, vb_X12_bill_10, vb_X12_bill_52, vb_X12_bill_62, vb_X12_bill_72, vb_X12_bill_81, vb_X12_bill_91, vb_X12_bill_101, vb_X12_bill_137, vb_X12_bill_138, xI_0, xI_1, xI_3, xI_7, xI_8, xI_14, xI_15, xI_36, xI_37, xI_38, xI_49, xI_51, xI_60, xI_61, xI_62, xI_111, xw_X12_bill_0, xw_X12_bill_10, xw_X12_bill_52, xw_X12_bill_62, xw_X12_bill_72, xw_X12_bill_81, xw_X12_bill_91, xw_X12_bill_101, xw_X12_bill_137, xw_X12_bill_138, zw_lit, xB_c, xB_s, xB_n, i1_c, j2_c, k1_c, jJ_e, xlg, xls, xla, xpd, ppush, zw_m1, zw_m2, zw_m3, gf_12_0, tg_12_0, gv_590_0, xD1, xD2, xD3, xD4, xD5, xD6, xb1_0, z0, b0, b1, b2, b3, zb1, zb2, zb3, zb4, zb5, zb6, zb7, zb8, zb9, sw, zn, w0, w1, w2, w3] at h
        exact ⟨_, H, h, by unfold biQ; rw [if_pos hq, if_neg (by omega), if_neg (by omega), if_neg (by omega), if_neg (by omega), if_neg (by omega), if_neg (by omega)], MQs_refl⟩
      · have w2 : w < 10 := by omega
        have h := call_runP 4 vm_X12_bill h
        have h := xw_top (hd := []) 12 xD6_ok xc_X12_bill xa_X12_bill (t := 0) rfl h
        simp (maxDischargeDepth := 12) -implicitDefEqProofs [vb_X12_bill_0, vb_X12_bill_10, vb_X12_bill_52, vb_X12_bill_62, vb_X12_bill_72, vb_X12_bill_81, vb_X12_bill_91, vb_X12_bill_101, vb_X12_bill_137, vb_X12_bill_138, xI_0, xI_1, xI_3, xI_7, xI_8, xI_14, xI_15, xI_36, xI_37, xI_38, xI_49, xI_51, xI_60, xI_61, xI_62, xI_111, xw_X12_bill_0, xw_X12_bill_10, xw_X12_bill_52, xw_X12_bill_62, xw_X12_bill_72, xw_X12_bill_81, xw_X12_bill_91, xw_X12_bill_101, xw_X12_bill_137, xw_X12_bill_138, zw_lit, xB_c, xB_s, xB_n, i1_c, j2_c, k1_c, jJ_e, xlg, xls, xla, xpd, ppush, zw_m1, zw_m2, zw_m3, gf_12_0, tg_12_0, gv_590_0, xD1, xD2, xD3, xD4, xD5, xD6, xb1_0, z0, b0, b1, b2, b3, zb1, zb2, zb3, zb4, zb5, zb6, zb7, zb8, zb9, sw, zn, w0, w2] at h
        exact ⟨_, H, h, by unfold biQ; rw [if_pos hq, if_neg (by omega), if_neg (by omega), if_neg (by omega), if_neg (by omega), if_neg (by omega), if_neg (by omega)], MQs_refl⟩
  · by_cases b0 : 0 ≤ b
    · have b1 : ¬ b ≤ H 591 0 - 1 := by omega
      have b2 : ¬ b < 0 := by omega
      have b3 : H 591 0 - 1 < b := by omega
      have h := call_runP 4 vm_X12_bill h
      have h := xw_top (hd := []) 12 xD6_ok xc_X12_bill xa_X12_bill (t := 0) rfl h
      simp (maxDischargeDepth := 12) -implicitDefEqProofs [vb_X12_bill_0, vb_X12_bill_10, vb_X12_bill_52, vb_X12_bill_62, vb_X12_bill_72, vb_X12_bill_81, vb_X12_bill_91, vb_X12_bill_101, vb_X12_bill_137, vb_X12_bill_138, xI_0, xI_1, xI_3, xI_7, xI_8, xI_14, xI_15, xI_36, xI_37, xI_38, xI_49, xI_51, xI_60, xI_61, xI_62, xI_111, xw_X12_bill_0, xw_X12_bill_10, xw_X12_bill_52, xw_X12_bill_62, xw_X12_bill_72, xw_X12_bill_81, xw_X12_bill_91, xw_X12_bill_101, xw_X12_bill_137, xw_X12_bill_138, zw_lit, xB_c, xB_s, xB_n, i1_c, j2_c, k1_c, jJ_e, xlg, xls, xla, xpd, ppush, zw_m1, zw_m2, zw_m3, gf_12_0, tg_12_0, gv_590_0, xD1, xD2, xD3, xD4, xD5, xD6, xb1_0, z0, b0, b1, b2, b3] at h
      exact ⟨_, H, h, by unfold biQ; rw [if_neg (by omega)], MQs_refl⟩
    · have b2 : b < 0 := by omega
      have h := call_runP 4 vm_X12_bill h
      have h := xw_top (hd := []) 12 xD6_ok xc_X12_bill xa_X12_bill (t := 0) rfl h
      simp (maxDischargeDepth := 12) -implicitDefEqProofs [vb_X12_bill_0, vb_X12_bill_10, vb_X12_bill_52, vb_X12_bill_62, vb_X12_bill_72, vb_X12_bill_81, vb_X12_bill_91, vb_X12_bill_101, vb_X12_bill_137, vb_X12_bill_138, xI_0, xI_1, xI_3, xI_7, xI_8, xI_14, xI_15, xI_36, xI_37, xI_38, xI_49, xI_51, xI_60, xI_61, xI_62, xI_111, xw_X12_bill_0, xw_X12_bill_10, xw_X12_bill_52, xw_X12_bill_62, xw_X12_bill_72, xw_X12_bill_81, xw_X12_bill_91, xw_X12_bill_101, xw_X12_bill_137, xw_X12_bill_138, zw_lit, xB_c, xB_s, xB_n, i1_c, j2_c, k1_c, jJ_e, xlg, xls, xla, xpd, ppush, zw_m1, zw_m2, zw_m3, gf_12_0, tg_12_0, gv_590_0, xD1, xD2, xD3, xD4, xD5, xD6, xb1_0, z0, b0, b2] at h
      exact ⟨_, H, h, by unfold biQ; rw [if_neg (by omega)], MQs_refl⟩
set_option maxRecDepth 100000 in
theorem sp_m_line (k w : Int) (H : PH) (ok : OKR (H 591)) : SPEC 212 [(2, 590), (0, k), (0, w)] H (fun r H' => r = some (0, liQ (H 591) k w) ∧ MQs H H') := by
  intro E n' res h
  have a0 := ok.1.1
  have a2 := ok.1.2.2.1
  have os := ok.2.2.1
  unfold OKS at os
  have z0 : zw (H 591 0 - 1) = H 591 0 - 1 := zw_lit (by omega) (by omega)
  have z2 : zw (H 591 2 - 1) = H 591 2 - 1 := zw_lit (by omega) (by omega)
  by_cases qk : 0 ≤ k ∧ k ≤ H 591 2 - 1
  · have k0 := qk.1
    have k1 := qk.2
    have k2 : ¬ k < 0 := by omega
    have k3 : ¬ H 591 2 - 1 < k := by omega
    have hq : 0 ≤ k ∧ k < H 591 2 := by omega
    have zb1 : zw (12 * k) = 12 * k := zw_lit (by omega) (by omega)
    have zb2 : zw (404 + 12 * k) = 404 + 12 * k := zw_lit (by omega) (by omega)
    have zb3 : zw (404 + 12 * k + 1) = 404 + 12 * k + 1 := zw_lit (by omega) (by omega)
    have zb4 : zw (404 + 12 * k + 2) = 404 + 12 * k + 2 := zw_lit (by omega) (by omega)
    have zb5 : zw (404 + 12 * k + 3) = 404 + 12 * k + 3 := zw_lit (by omega) (by omega)
    have zb6 : zw (404 + 12 * k + 4) = 404 + 12 * k + 4 := zw_lit (by omega) (by omega)
    have ln := ok.1.2.2.2.2.2.1 k k0 (by omega)
    by_cases c : w = 0
    · have sw := sw_X12_line_0
      have h := call_runP 4 vm_X12_line h
      have h := xw_top (hd := []) 11 xD6_ok xc_X12_line xa_X12_line (t := 0) rfl h
      simp (maxDischargeDepth := 12) -implicitDefEqProofs [vb_X12_line_0, vb_X12_line_10, vb_X12_line_48, vb_X12_line_57, vb_X12_line_66, vb_X12_line_75, vb_X12_line_84, vb_X12_line_120, vb_X12_line_121, xI_0, xI_1, xI_3, xI_7, xI_8, xI_14, xI_15, xI_36, xI_37, xI_38, xI_49, xI_51, xI_60, xI_61, xI_62, xI_112, xw_X12_line_0, xw_X12_line_10, xw_X12_line_48, xw_X12_line_57, xw_X12_line_66, xw_X12_line_75, xw_X12_line_84, xw_X12_line_120, xw_X12_line_121, zw_lit, xB_c, xB_s, xB_n, i1_c, j2_c, k1_c, jJ_e, xlg, xls, xla, xpd, ppush, zw_m1, zw_m2, zw_m3, gf_12_0, tg_12_0, gv_590_0, xD1, xD2, xD3, xD4, xD5, xD6, xb1_0, z2, k0, k1, k2, k3, zb1, zb2, zb3, zb4, zb5, zb6, c, sw] at h
      exact ⟨_, _, h, by rw [c]; unfold liQ; rw [if_pos hq]; rfl, MQs_refl⟩
    by_cases c : w = 1
    · have sw := sw_X12_line_1
      have h := call_runP 4 vm_X12_line h
      have h := xw_top (hd := []) 11 xD6_ok xc_X12_line xa_X12_line (t := 0) rfl h
      simp (maxDischargeDepth := 12) -implicitDefEqProofs [vb_X12_line_0, vb_X12_line_10, vb_X12_line_48, vb_X12_line_57, vb_X12_line_66, vb_X12_line_75, vb_X12_line_84, vb_X12_line_120, vb_X12_line_121, xI_0, xI_1, xI_3, xI_7, xI_8, xI_14, xI_15, xI_36, xI_37, xI_38, xI_49, xI_51, xI_60, xI_61, xI_62, xI_112, xw_X12_line_0, xw_X12_line_10, xw_X12_line_48, xw_X12_line_57, xw_X12_line_66, xw_X12_line_75, xw_X12_line_84, xw_X12_line_120, xw_X12_line_121, zw_lit, xB_c, xB_s, xB_n, i1_c, j2_c, k1_c, jJ_e, xlg, xls, xla, xpd, ppush, zw_m1, zw_m2, zw_m3, gf_12_0, tg_12_0, gv_590_0, xD1, xD2, xD3, xD4, xD5, xD6, xb1_0, z2, k0, k1, k2, k3, zb1, zb2, zb3, zb4, zb5, zb6, c, sw] at h
      exact ⟨_, _, h, by rw [c]; unfold liQ; rw [if_pos hq]; rfl, MQs_refl⟩
    by_cases c : w = 2
    · have sw := sw_X12_line_2
      have h := call_runP 4 vm_X12_line h
      have h := xw_top (hd := []) 11 xD6_ok xc_X12_line xa_X12_line (t := 0) rfl h
      simp (maxDischargeDepth := 12) -implicitDefEqProofs [vb_X12_line_0, vb_X12_line_10, vb_X12_line_48, vb_X12_line_57, vb_X12_line_66, vb_X12_line_75, vb_X12_line_84, vb_X12_line_120, vb_X12_line_121, xI_0, xI_1, xI_3, xI_7, xI_8, xI_14, xI_15, xI_36, xI_37, xI_38, xI_49, xI_51, xI_60, xI_61, xI_62, xI_112, xw_X12_line_0, xw_X12_line_10, xw_X12_line_48, xw_X12_line_57, xw_X12_line_66, xw_X12_line_75, xw_X12_line_84, xw_X12_line_120, xw_X12_line_121, zw_lit, xB_c, xB_s, xB_n, i1_c, j2_c, k1_c, jJ_e, xlg, xls, xla, xpd, ppush, zw_m1, zw_m2, zw_m3, gf_12_0, tg_12_0, gv_590_0, xD1, xD2, xD3, xD4, xD5, xD6, xb1_0, z2, k0, k1, k2, k3, zb1, zb2, zb3, zb4, zb5, zb6, c, sw] at h
      exact ⟨_, _, h, by rw [c]; unfold liQ; rw [if_pos hq]; rfl, MQs_refl⟩
    by_cases c : w = 3
    · have sw := sw_X12_line_3
      have h := call_runP 4 vm_X12_line h
      have h := xw_top (hd := []) 11 xD6_ok xc_X12_line xa_X12_line (t := 0) rfl h
      simp (maxDischargeDepth := 12) -implicitDefEqProofs [vb_X12_line_0, vb_X12_line_10, vb_X12_line_48, vb_X12_line_57, vb_X12_line_66, vb_X12_line_75, vb_X12_line_84, vb_X12_line_120, vb_X12_line_121, xI_0, xI_1, xI_3, xI_7, xI_8, xI_14, xI_15, xI_36, xI_37, xI_38, xI_49, xI_51, xI_60, xI_61, xI_62, xI_112, xw_X12_line_0, xw_X12_line_10, xw_X12_line_48, xw_X12_line_57, xw_X12_line_66, xw_X12_line_75, xw_X12_line_84, xw_X12_line_120, xw_X12_line_121, zw_lit, xB_c, xB_s, xB_n, i1_c, j2_c, k1_c, jJ_e, xlg, xls, xla, xpd, ppush, zw_m1, zw_m2, zw_m3, gf_12_0, tg_12_0, gv_590_0, xD1, xD2, xD3, xD4, xD5, xD6, xb1_0, z2, k0, k1, k2, k3, zb1, zb2, zb3, zb4, zb5, zb6, c, sw] at h
      exact ⟨_, _, h, by rw [c]; unfold liQ; rw [if_pos hq]; rfl, MQs_refl⟩
    have zn : zw (9 + H 591 (404 + 12 * k + 3)) = 9 + H 591 (404 + 12 * k + 3) := zw_lit (by omega) (by omega)
    have sw := sw_X12_line_d (x := w) (by omega)
    by_cases qw : 10 ≤ w ∧ w ≤ 9 + H 591 (404 + 12 * k + 3)
    · have w0 := qw.1
      have w1 := qw.2
      have w2 : ¬ w < 10 := by omega
      have w3 : ¬ 9 + H 591 (404 + 12 * k + 3) < w := by omega
      have zw1 : zw (404 + 12 * k + 4 + w) = 404 + 12 * k + 4 + w := zw_lit (by omega) (by omega)
      have zw2 : zw (404 + 12 * k + 4 + w - 10) = 404 + 12 * k + 4 + (w - 10) := by rw [show 404 + 12 * k + 4 + w - 10 = 404 + 12 * k + 4 + (w - 10) by omega]; exact zw_lit (by omega) (by omega)
      have h := call_runP 4 vm_X12_line h
      have h := xw_top (hd := []) 11 xD6_ok xc_X12_line xa_X12_line (t := 0) rfl h
      simp (maxDischargeDepth := 12) -implicitDefEqProofs [vb_X12_line_0, vb_X12_line_10, vb_X12_line_48, vb_X12_line_57, vb_X12_line_66, vb_X12_line_75, vb_X12_line_84, vb_X12_line_120, vb_X12_line_121, xI_0, xI_1, xI_3, xI_7, xI_8, xI_14, xI_15, xI_36, xI_37, xI_38, xI_49, xI_51, xI_60, xI_61, xI_62, xI_112, xw_X12_line_0, xw_X12_line_10, xw_X12_line_48, xw_X12_line_57, xw_X12_line_66, xw_X12_line_75, xw_X12_line_84, xw_X12_line_120, xw_X12_line_121, zw_lit, xB_c, xB_s, xB_n, i1_c, j2_c, k1_c, jJ_e, xlg, xls, xla, xpd, ppush, zw_m1, zw_m2, zw_m3, gf_12_0, tg_12_0, gv_590_0, xD1, xD2, xD3, xD4, xD5, xD6, xb1_0, z2, k0, k1, k2, k3, zb1, zb2, zb3, zb4, zb5, zb6, sw, zn, w0, w1, w2, w3, zw1, zw2] at h
      exact ⟨_, H, h, by unfold liQ; rw [if_pos hq, if_neg (by omega), if_neg (by omega), if_neg (by omega), if_neg (by omega), if_pos qw], MQs_refl⟩
    · by_cases w0 : 10 ≤ w
      · have w1 : ¬ w ≤ 9 + H 591 (404 + 12 * k + 3) := by omega
        have w2 : ¬ w < 10 := by omega
        have w3 : 9 + H 591 (404 + 12 * k + 3) < w := by omega
        have h := call_runP 4 vm_X12_line h
        have h := xw_top (hd := []) 11 xD6_ok xc_X12_line xa_X12_line (t := 0) rfl h
        simp (maxDischargeDepth := 12) -implicitDefEqProofs [vb_X12_line_0, vb_X12_line_10, vb_X12_line_48, vb_X12_line_57, vb_X12_line_66, vb_X12_line_75, vb_X12_line_84, vb_X12_line_120, vb_X12_line_121, xI_0, xI_1, xI_3, xI_7, xI_8, xI_14, xI_15, xI_36, xI_37, xI_38, xI_49, xI_51, xI_60, xI_61, xI_62, xI_112, xw_X12_line_0, xw_X12_line_10, xw_X12_line_48, xw_X12_line_57, xw_X12_line_66, xw_X12_line_75, xw_X12_line_84, xw_X12_line_120, xw_X12_line_121, zw_lit, xB_c, xB_s, xB_n, i1_c, j2_c, k1_c, jJ_e, xlg, xls, xla, xpd, ppush, zw_m1, zw_m2, zw_m3, gf_12_0, tg_12_0, gv_590_0, xD1, xD2, xD3, xD4, xD5, xD6, xb1_0, z2, k0, k1, k2, k3, zb1, zb2, zb3, zb4, zb5, zb6, sw, zn, w0, w1, w2, w3] at h
        exact ⟨_, H, h, by unfold liQ; rw [if_pos hq, if_neg (by omega), if_neg (by omega), if_neg (by omega), if_neg (by omega), if_neg (by omega)], MQs_refl⟩
      · have w2 : w < 10 := by omega
        have h := call_runP 4 vm_X12_line h
        have h := xw_top (hd := []) 11 xD6_ok xc_X12_line xa_X12_line (t := 0) rfl h
        simp (maxDischargeDepth := 12) -implicitDefEqProofs [vb_X12_line_0, vb_X12_line_10, vb_X12_line_48, vb_X12_line_57, vb_X12_line_66, vb_X12_line_75, vb_X12_line_84, vb_X12_line_120, vb_X12_line_121, xI_0, xI_1, xI_3, xI_7, xI_8, xI_14, xI_15, xI_36, xI_37, xI_38, xI_49, xI_51, xI_60, xI_61, xI_62, xI_112, xw_X12_line_0, xw_X12_line_10, xw_X12_line_48, xw_X12_line_57, xw_X12_line_66, xw_X12_line_75, xw_X12_line_84, xw_X12_line_120, xw_X12_line_121, zw_lit, xB_c, xB_s, xB_n, i1_c, j2_c, k1_c, jJ_e, xlg, xls, xla, xpd, ppush, zw_m1, zw_m2, zw_m3, gf_12_0, tg_12_0, gv_590_0, xD1, xD2, xD3, xD4, xD5, xD6, xb1_0, z2, k0, k1, k2, k3, zb1, zb2, zb3, zb4, zb5, zb6, sw, zn, w0, w2] at h
        exact ⟨_, H, h, by unfold liQ; rw [if_pos hq, if_neg (by omega), if_neg (by omega), if_neg (by omega), if_neg (by omega), if_neg (by omega)], MQs_refl⟩
  · by_cases k0 : 0 ≤ k
    · have k1 : ¬ k ≤ H 591 2 - 1 := by omega
      have k2 : ¬ k < 0 := by omega
      have k3 : H 591 2 - 1 < k := by omega
      have h := call_runP 4 vm_X12_line h
      have h := xw_top (hd := []) 11 xD6_ok xc_X12_line xa_X12_line (t := 0) rfl h
      simp (maxDischargeDepth := 12) -implicitDefEqProofs [vb_X12_line_0, vb_X12_line_10, vb_X12_line_48, vb_X12_line_57, vb_X12_line_66, vb_X12_line_75, vb_X12_line_84, vb_X12_line_120, vb_X12_line_121, xI_0, xI_1, xI_3, xI_7, xI_8, xI_14, xI_15, xI_36, xI_37, xI_38, xI_49, xI_51, xI_60, xI_61, xI_62, xI_112, xw_X12_line_0, xw_X12_line_10, xw_X12_line_48, xw_X12_line_57, xw_X12_line_66, xw_X12_line_75, xw_X12_line_84, xw_X12_line_120, xw_X12_line_121, zw_lit, xB_c, xB_s, xB_n, i1_c, j2_c, k1_c, jJ_e, xlg, xls, xla, xpd, ppush, zw_m1, zw_m2, zw_m3, gf_12_0, tg_12_0, gv_590_0, xD1, xD2, xD3, xD4, xD5, xD6, xb1_0, z2, k0, k1, k2, k3] at h
      exact ⟨_, H, h, by unfold liQ; rw [if_neg (by omega)], MQs_refl⟩
    · have k2 : k < 0 := by omega
      have h := call_runP 4 vm_X12_line h
      have h := xw_top (hd := []) 11 xD6_ok xc_X12_line xa_X12_line (t := 0) rfl h
      simp (maxDischargeDepth := 12) -implicitDefEqProofs [vb_X12_line_0, vb_X12_line_10, vb_X12_line_48, vb_X12_line_57, vb_X12_line_66, vb_X12_line_75, vb_X12_line_84, vb_X12_line_120, vb_X12_line_121, xI_0, xI_1, xI_3, xI_7, xI_8, xI_14, xI_15, xI_36, xI_37, xI_38, xI_49, xI_51, xI_60, xI_61, xI_62, xI_112, xw_X12_line_0, xw_X12_line_10, xw_X12_line_48, xw_X12_line_57, xw_X12_line_66, xw_X12_line_75, xw_X12_line_84, xw_X12_line_120, xw_X12_line_121, zw_lit, xB_c, xB_s, xB_n, i1_c, j2_c, k1_c, jJ_e, xlg, xls, xla, xpd, ppush, zw_m1, zw_m2, zw_m3, gf_12_0, tg_12_0, gv_590_0, xD1, xD2, xD3, xD4, xD5, xD6, xb1_0, z2, k0, k2] at h
      exact ⟨_, H, h, by unfold liQ; rw [if_neg (by omega)], MQs_refl⟩
set_option maxRecDepth 100000 in
theorem sp_m_gone (b : Int) (H : PH) (ok : OKR (H 591)) : SPEC 257 [(2, 590), (0, b)] H (fun r H' => r = some (0, gnQ (H 591) b) ∧ MQs H H') := by
  intro E n' res h
  have a0 := ok.1.1
  have a2 := ok.1.2.2.1
  have os := ok.2.2.1
  unfold OKS at os
  have z0 : zw (H 591 0 - 1) = H 591 0 - 1 := zw_lit (by omega) (by omega)
  have z2 : zw (H 591 2 - 1) = H 591 2 - 1 := zw_lit (by omega) (by omega)
  by_cases qb : 0 ≤ b ∧ b ≤ H 591 0 - 1
  · have b0 := qb.1
    have b1 := qb.2
    have b2 : ¬ b < 0 := by omega
    have b3 : ¬ H 591 0 - 1 < b := by omega
    have hq : 0 ≤ b ∧ b < H 591 0 := by omega
    have zb1 : zw (26 * b) = 26 * b := zw_lit (by omega) (by omega)
    have zb2 : zw (92 + 26 * b) = 92 + 26 * b := zw_lit (by omega) (by omega)
    have zb3 : zw (92 + 26 * b + 9) = 92 + 26 * b + 9 := zw_lit (by omega) (by omega)
    have zb4 : zw (92 + 26 * b + 10) = 92 + 26 * b + 10 := zw_lit (by omega) (by omega)
    have zb5 : zw (92 + 26 * b + 11) = 92 + 26 * b + 11 := zw_lit (by omega) (by omega)
    have zb6 : zw (92 + 26 * b + 12) = 92 + 26 * b + 12 := zw_lit (by omega) (by omega)
    have zb7 : zw (92 + 26 * b + 13) = 92 + 26 * b + 13 := zw_lit (by omega) (by omega)
    have zb8 : zw (92 + 26 * b + 14) = 92 + 26 * b + 14 := zw_lit (by omega) (by omega)
    have zb9 : zw (92 + 26 * b + 1) = 92 + 26 * b + 1 := zw_lit (by omega) (by omega)
    have h := call_runP 2 vm_X12_gone h
    have h := xw_top (hd := []) 5 xD6_ok xc_X12_gone xa_X12_gone (t := 0) rfl h
    simp (maxDischargeDepth := 12) -implicitDefEqProofs [vb_X12_gone_0, vb_X12_gone_23, vb_X12_gone_24, xI_0, xI_1, xI_7, xI_8, xI_14, xI_36, xI_37, xI_49, xI_51, xI_60, xI_61, xI_62, xw_X12_gone_0, xw_X12_gone_23, xw_X12_gone_24, zw_lit, xB_c, xB_s, xB_n, i1_c, j2_c, k1_c, jJ_e, xlg, xls, xla, xpd, ppush, zw_m1, zw_m2, zw_m3, gf_12_0, tg_12_0, gv_590_0, xD1, xD2, xD3, xD4, xD5, xD6, xb1_0, z0, b0, b1, b2, b3, zb1, zb2, zb6] at h
    exact ⟨_, H, h, by unfold gnQ; rw [if_pos hq], MQs_refl⟩
  · by_cases b0 : 0 ≤ b
    · have b1 : ¬ b ≤ H 591 0 - 1 := by omega
      have b2 : ¬ b < 0 := by omega
      have b3 : H 591 0 - 1 < b := by omega
      have h := call_runP 2 vm_X12_gone h
      have h := xw_top (hd := []) 5 xD6_ok xc_X12_gone xa_X12_gone (t := 0) rfl h
      simp (maxDischargeDepth := 12) -implicitDefEqProofs [vb_X12_gone_0, vb_X12_gone_23, vb_X12_gone_24, xI_0, xI_1, xI_7, xI_8, xI_14, xI_36, xI_37, xI_49, xI_51, xI_60, xI_61, xI_62, xw_X12_gone_0, xw_X12_gone_23, xw_X12_gone_24, zw_lit, xB_c, xB_s, xB_n, i1_c, j2_c, k1_c, jJ_e, xlg, xls, xla, xpd, ppush, zw_m1, zw_m2, zw_m3, gf_12_0, tg_12_0, gv_590_0, xD1, xD2, xD3, xD4, xD5, xD6, xb1_0, z0, b0, b1, b2, b3] at h
      exact ⟨_, H, h, by unfold gnQ; rw [if_neg (by omega)], MQs_refl⟩
    · have b2 : b < 0 := by omega
      have h := call_runP 2 vm_X12_gone h
      have h := xw_top (hd := []) 5 xD6_ok xc_X12_gone xa_X12_gone (t := 0) rfl h
      simp (maxDischargeDepth := 12) -implicitDefEqProofs [vb_X12_gone_0, vb_X12_gone_23, vb_X12_gone_24, xI_0, xI_1, xI_7, xI_8, xI_14, xI_36, xI_37, xI_49, xI_51, xI_60, xI_61, xI_62, xw_X12_gone_0, xw_X12_gone_23, xw_X12_gone_24, zw_lit, xB_c, xB_s, xB_n, i1_c, j2_c, k1_c, jJ_e, xlg, xls, xla, xpd, ppush, zw_m1, zw_m2, zw_m3, gf_12_0, tg_12_0, gv_590_0, xD1, xD2, xD3, xD4, xD5, xD6, xb1_0, z0, b0, b2] at h
      exact ⟨_, H, h, by unfold gnQ; rw [if_neg (by omega)], MQs_refl⟩
set_option maxRecDepth 100000 in
theorem sp_m_remarked (b i w : Int) (H : PH) (ok : OKR (H 591)) : SPEC 227 [(2, 590), (0, b), (0, i), (0, w)] H (fun r H' => r = some (0, rmQ (H 591) b i w) ∧ MQs H H') := by
  intro E n' res h
  have a0 := ok.1.1
  have a2 := ok.1.2.2.1
  have os := ok.2.2.1
  unfold OKS at os
  have z0 : zw (H 591 0 - 1) = H 591 0 - 1 := zw_lit (by omega) (by omega)
  have z2 : zw (H 591 2 - 1) = H 591 2 - 1 := zw_lit (by omega) (by omega)
  by_cases qb : 0 ≤ b ∧ b ≤ H 591 0 - 1
  · have b0 := qb.1
    have b1 := qb.2
    have b2 : ¬ b < 0 := by omega
    have b3 : ¬ H 591 0 - 1 < b := by omega
    have hq : 0 ≤ b ∧ b < H 591 0 := by omega
    have zb1 : zw (26 * b) = 26 * b := zw_lit (by omega) (by omega)
    have zb2 : zw (92 + 26 * b) = 92 + 26 * b := zw_lit (by omega) (by omega)
    have zb3 : zw (92 + 26 * b + 9) = 92 + 26 * b + 9 := zw_lit (by omega) (by omega)
    have zb4 : zw (92 + 26 * b + 10) = 92 + 26 * b + 10 := zw_lit (by omega) (by omega)
    have zb5 : zw (92 + 26 * b + 11) = 92 + 26 * b + 11 := zw_lit (by omega) (by omega)
    have zb6 : zw (92 + 26 * b + 12) = 92 + 26 * b + 12 := zw_lit (by omega) (by omega)
    have zb7 : zw (92 + 26 * b + 13) = 92 + 26 * b + 13 := zw_lit (by omega) (by omega)
    have zb8 : zw (92 + 26 * b + 14) = 92 + 26 * b + 14 := zw_lit (by omega) (by omega)
    have zb9 : zw (92 + 26 * b + 1) = 92 + 26 * b + 1 := zw_lit (by omega) (by omega)
    have r6 := ok.1.2.2.2.2.1 b b0 (by omega)
    have z5 : zw (H 591 (92 + 26 * b + 13) - 1) = H 591 (92 + 26 * b + 13) - 1 := zw_lit (by omega) (by omega)
    by_cases qi : 0 ≤ i ∧ i ≤ H 591 (92 + 26 * b + 13) - 1
    · have i0 := qi.1
      have i1 := qi.2
      have i2 : ¬ i < 0 := by omega
      have i3 : ¬ H 591 (92 + 26 * b + 13) - 1 < i := by omega
      by_cases qw : 0 ≤ w ∧ w ≤ 1
      · have w0 := qw.1
        have w1 := qw.2
        have w2 : ¬ w < 0 := by omega
        have w3 : ¬ 1 < w := by omega
        have hq2 : (0 ≤ b ∧ b < H 591 0) ∧ (0 ≤ i ∧ i < H 591 (92 + 26 * b + 13)) ∧ (0 ≤ w ∧ w ≤ 1) := by omega
        have zi : zw (2 * i) = 2 * i := zw_lit (by omega) (by omega)
        have zj : zw (92 + 26 * b + 14 + 2 * i) = 92 + 26 * b + 14 + 2 * i := zw_lit (by omega) (by omega)
        have zk : zw (92 + 26 * b + 14 + 2 * i + 1) = 92 + 26 * b + 14 + 2 * i + 1 := zw_lit (by omega) (by omega)
        by_cases c : w = 0
        · have h := call_runP 4 vm_X12_remarked h
          have h := xw_top (hd := []) 5 xD6_ok xc_X12_remarked xa_X12_remarked (t := 0) rfl h
          simp (maxDischargeDepth := 12) -implicitDefEqProofs [vb_X12_remarked_0, vb_X12_remarked_60, vb_X12_remarked_61, xI_0, xI_1, xI_7, xI_8, xI_14, xI_15, xI_16, xI_36, xI_37, xI_49, xI_51, xI_60, xI_61, xI_62, xw_X12_remarked_0, xw_X12_remarked_60, xw_X12_remarked_61, zw_lit, xB_c, xB_s, xB_n, i1_c, j2_c, k1_c, jJ_e, xlg, xls, xla, xpd, ppush, zw_m1, zw_m2, zw_m3, gf_12_0, tg_12_0, gv_590_0, xD1, xD2, xD3, xD4, xD5, xD6, xb1_0, z0, b0, b1, b2, b3, zb1, zb2, zb7, zb8, z5, i0, i1, i2, i3, c, zi, zj] at h
          exact ⟨_, H, h, by unfold rmQ; rw [if_pos hq2, if_pos c], MQs_refl⟩
        · have c' : w = 1 := by omega
          have h := call_runP 4 vm_X12_remarked h
          have h := xw_top (hd := []) 5 xD6_ok xc_X12_remarked xa_X12_remarked (t := 0) rfl h
          simp (maxDischargeDepth := 12) -implicitDefEqProofs [vb_X12_remarked_0, vb_X12_remarked_60, vb_X12_remarked_61, xI_0, xI_1, xI_7, xI_8, xI_14, xI_15, xI_16, xI_36, xI_37, xI_49, xI_51, xI_60, xI_61, xI_62, xw_X12_remarked_0, xw_X12_remarked_60, xw_X12_remarked_61, zw_lit, xB_c, xB_s, xB_n, i1_c, j2_c, k1_c, jJ_e, xlg, xls, xla, xpd, ppush, zw_m1, zw_m2, zw_m3, gf_12_0, tg_12_0, gv_590_0, xD1, xD2, xD3, xD4, xD5, xD6, xb1_0, z0, b0, b1, b2, b3, zb1, zb2, zb7, zb8, z5, i0, i1, i2, i3, c', zi, zj, zk] at h
          exact ⟨_, H, h, by unfold rmQ; rw [if_pos hq2, if_neg c], MQs_refl⟩
      · by_cases w0 : 0 ≤ w
        · have w1 : ¬ w ≤ 1 := by omega
          have w2 : ¬ w < 0 := by omega
          have w3 : 1 < w := by omega
          have h := call_runP 4 vm_X12_remarked h
          have h := xw_top (hd := []) 5 xD6_ok xc_X12_remarked xa_X12_remarked (t := 0) rfl h
          simp (maxDischargeDepth := 12) -implicitDefEqProofs [vb_X12_remarked_0, vb_X12_remarked_60, vb_X12_remarked_61, xI_0, xI_1, xI_7, xI_8, xI_14, xI_15, xI_16, xI_36, xI_37, xI_49, xI_51, xI_60, xI_61, xI_62, xw_X12_remarked_0, xw_X12_remarked_60, xw_X12_remarked_61, zw_lit, xB_c, xB_s, xB_n, i1_c, j2_c, k1_c, jJ_e, xlg, xls, xla, xpd, ppush, zw_m1, zw_m2, zw_m3, gf_12_0, tg_12_0, gv_590_0, xD1, xD2, xD3, xD4, xD5, xD6, xb1_0, z0, b0, b1, b2, b3, zb1, zb2, zb7, zb8, z5, i0, i1, i2, i3, w0, w1, w2, w3] at h
          exact ⟨_, H, h, by unfold rmQ; rw [if_neg (by omega)], MQs_refl⟩
        · have w2 : w < 0 := by omega
          have h := call_runP 4 vm_X12_remarked h
          have h := xw_top (hd := []) 5 xD6_ok xc_X12_remarked xa_X12_remarked (t := 0) rfl h
          simp (maxDischargeDepth := 12) -implicitDefEqProofs [vb_X12_remarked_0, vb_X12_remarked_60, vb_X12_remarked_61, xI_0, xI_1, xI_7, xI_8, xI_14, xI_15, xI_16, xI_36, xI_37, xI_49, xI_51, xI_60, xI_61, xI_62, xw_X12_remarked_0, xw_X12_remarked_60, xw_X12_remarked_61, zw_lit, xB_c, xB_s, xB_n, i1_c, j2_c, k1_c, jJ_e, xlg, xls, xla, xpd, ppush, zw_m1, zw_m2, zw_m3, gf_12_0, tg_12_0, gv_590_0, xD1, xD2, xD3, xD4, xD5, xD6, xb1_0, z0, b0, b1, b2, b3, zb1, zb2, zb7, zb8, z5, i0, i1, i2, i3, w0, w2] at h
          exact ⟨_, H, h, by unfold rmQ; rw [if_neg (by omega)], MQs_refl⟩
    · by_cases i0 : 0 ≤ i
      · have i1 : ¬ i ≤ H 591 (92 + 26 * b + 13) - 1 := by omega
        have i2 : ¬ i < 0 := by omega
        have i3 : H 591 (92 + 26 * b + 13) - 1 < i := by omega
        have h := call_runP 4 vm_X12_remarked h
        have h := xw_top (hd := []) 5 xD6_ok xc_X12_remarked xa_X12_remarked (t := 0) rfl h
        simp (maxDischargeDepth := 12) -implicitDefEqProofs [vb_X12_remarked_0, vb_X12_remarked_60, vb_X12_remarked_61, xI_0, xI_1, xI_7, xI_8, xI_14, xI_15, xI_16, xI_36, xI_37, xI_49, xI_51, xI_60, xI_61, xI_62, xw_X12_remarked_0, xw_X12_remarked_60, xw_X12_remarked_61, zw_lit, xB_c, xB_s, xB_n, i1_c, j2_c, k1_c, jJ_e, xlg, xls, xla, xpd, ppush, zw_m1, zw_m2, zw_m3, gf_12_0, tg_12_0, gv_590_0, xD1, xD2, xD3, xD4, xD5, xD6, xb1_0, z0, b0, b1, b2, b3, zb1, zb2, zb7, zb8, z5, i0, i1, i2, i3] at h
        exact ⟨_, H, h, by unfold rmQ; rw [if_neg (by omega)], MQs_refl⟩
      · have i2 : i < 0 := by omega
        have h := call_runP 4 vm_X12_remarked h
        have h := xw_top (hd := []) 5 xD6_ok xc_X12_remarked xa_X12_remarked (t := 0) rfl h
        simp (maxDischargeDepth := 12) -implicitDefEqProofs [vb_X12_remarked_0, vb_X12_remarked_60, vb_X12_remarked_61, xI_0, xI_1, xI_7, xI_8, xI_14, xI_15, xI_16, xI_36, xI_37, xI_49, xI_51, xI_60, xI_61, xI_62, xw_X12_remarked_0, xw_X12_remarked_60, xw_X12_remarked_61, zw_lit, xB_c, xB_s, xB_n, i1_c, j2_c, k1_c, jJ_e, xlg, xls, xla, xpd, ppush, zw_m1, zw_m2, zw_m3, gf_12_0, tg_12_0, gv_590_0, xD1, xD2, xD3, xD4, xD5, xD6, xb1_0, z0, b0, b1, b2, b3, zb1, zb2, zb7, zb8, z5, i0, i2] at h
        exact ⟨_, H, h, by unfold rmQ; rw [if_neg (by omega)], MQs_refl⟩
  · by_cases b0 : 0 ≤ b
    · have b1 : ¬ b ≤ H 591 0 - 1 := by omega
      have b2 : ¬ b < 0 := by omega
      have b3 : H 591 0 - 1 < b := by omega
      have h := call_runP 4 vm_X12_remarked h
      have h := xw_top (hd := []) 5 xD6_ok xc_X12_remarked xa_X12_remarked (t := 0) rfl h
      simp (maxDischargeDepth := 12) -implicitDefEqProofs [vb_X12_remarked_0, vb_X12_remarked_60, vb_X12_remarked_61, xI_0, xI_1, xI_7, xI_8, xI_14, xI_15, xI_16, xI_36, xI_37, xI_49, xI_51, xI_60, xI_61, xI_62, xw_X12_remarked_0, xw_X12_remarked_60, xw_X12_remarked_61, zw_lit, xB_c, xB_s, xB_n, i1_c, j2_c, k1_c, jJ_e, xlg, xls, xla, xpd, ppush, zw_m1, zw_m2, zw_m3, gf_12_0, tg_12_0, gv_590_0, xD1, xD2, xD3, xD4, xD5, xD6, xb1_0, z0, b0, b1, b2, b3] at h
      exact ⟨_, H, h, by unfold rmQ; rw [if_neg (by omega)], MQs_refl⟩
    · have b2 : b < 0 := by omega
      have h := call_runP 4 vm_X12_remarked h
      have h := xw_top (hd := []) 5 xD6_ok xc_X12_remarked xa_X12_remarked (t := 0) rfl h
      simp (maxDischargeDepth := 12) -implicitDefEqProofs [vb_X12_remarked_0, vb_X12_remarked_60, vb_X12_remarked_61, xI_0, xI_1, xI_7, xI_8, xI_14, xI_15, xI_16, xI_36, xI_37, xI_49, xI_51, xI_60, xI_61, xI_62, xw_X12_remarked_0, xw_X12_remarked_60, xw_X12_remarked_61, zw_lit, xB_c, xB_s, xB_n, i1_c, j2_c, k1_c, jJ_e, xlg, xls, xla, xpd, ppush, zw_m1, zw_m2, zw_m3, gf_12_0, tg_12_0, gv_590_0, xD1, xD2, xD3, xD4, xD5, xD6, xb1_0, z0, b0, b2] at h
      exact ⟨_, H, h, by unfold rmQ; rw [if_neg (by omega)], MQs_refl⟩
theorem pr_bill (b w : Int) (H : PH) (h : REL H) : PAIR 111 [(2, 0), (0, b), (0, w)] 211 [(2, 590), (0, b), (0, w)] H := by
  obtain ⟨⟨S, n, rl⟩, tp⟩ := h
  intro E N res hh
  obtain ⟨r, H1, g, rfl, cq⟩ := sp_c_bill b w S n H rl.2.1 rl.2.2.1 E N res hh
  refine ⟨_, H1, g, ⟨_, rfl⟩, ?_⟩
  obtain ⟨x1, x2, x3, x4, x5⟩ := RL_mid rl cq.2.2.1
  intro E N res hh
  obtain ⟨r', H2, g', rfl, mq⟩ := sp_m_bill b w H1 x4 E N res hh
  exact ⟨_, H2, g', by rw [x1], REL_MQ (REL_CQ rl tp cq) mq⟩
theorem pr_line (k w : Int) (H : PH) (h : REL H) : PAIR 112 [(2, 0), (0, k), (0, w)] 212 [(2, 590), (0, k), (0, w)] H := by
  obtain ⟨⟨S, n, rl⟩, tp⟩ := h
  intro E N res hh
  obtain ⟨r, H1, g, rfl, cq⟩ := sp_c_line k w S n H rl.2.1 rl.2.2.1 E N res hh
  refine ⟨_, H1, g, ⟨_, rfl⟩, ?_⟩
  obtain ⟨x1, x2, x3, x4, x5⟩ := RL_mid rl cq.2.2.1
  intro E N res hh
  obtain ⟨r', H2, g', rfl, mq⟩ := sp_m_line k w H1 x4 E N res hh
  exact ⟨_, H2, g', by rw [x1], REL_MQ (REL_CQ rl tp cq) mq⟩
theorem pr_gone (b : Int) (H : PH) (h : REL H) : PAIR 138 [(2, 0), (0, b)] 257 [(2, 590), (0, b)] H := by
  obtain ⟨⟨S, n, rl⟩, tp⟩ := h
  intro E N res hh
  obtain ⟨r, H1, g, rfl, cq⟩ := sp_c_gone b S n H rl.2.1 rl.2.2.1 E N res hh
  refine ⟨_, H1, g, ⟨_, rfl⟩, ?_⟩
  obtain ⟨x1, x2, x3, x4, x5⟩ := RL_mid rl cq.2.2.1
  intro E N res hh
  obtain ⟨r', H2, g', rfl, mq⟩ := sp_m_gone b H1 x4 E N res hh
  exact ⟨_, H2, g', by rw [x1], REL_MQ (REL_CQ rl tp cq) mq⟩
theorem pr_remarked (b i w : Int) (H : PH) (h : REL H) : PAIR 122 [(2, 0), (0, b), (0, i), (0, w)] 227 [(2, 590), (0, b), (0, i), (0, w)] H := by
  obtain ⟨⟨S, n, rl⟩, tp⟩ := h
  intro E N res hh
  obtain ⟨r, H1, g, rfl, cq⟩ := sp_c_remarked b i w S n H rl.2.1 rl.2.2.1 E N res hh
  refine ⟨_, H1, g, ⟨_, rfl⟩, ?_⟩
  obtain ⟨x1, x2, x3, x4, x5⟩ := RL_mid rl cq.2.2.1
  intro E N res hh
  obtain ⟨r', H2, g', rfl, mq⟩ := sp_m_remarked b i w H1 x4 E N res hh
  exact ⟨_, H2, g', by rw [x1], REL_MQ (REL_CQ rl tp cq) mq⟩
