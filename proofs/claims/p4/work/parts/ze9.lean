def xm_X12_read : List xbT := [(0, vb_X12_read_0, some 16), (16, vb_X12_read_16, some 17), (17, vb_X12_read_17, none)]
theorem xc_X12_read : xOK kd_X12_read xm_X12_read := ⟨ve_X12_read_0, ve_X12_read_16, ve_X12_read_17, trivial⟩
theorem xa_X12_read : xm_X12_read.all (fun q => aOKb q.2.1 && !q.2.1.isEmpty) = true := by decide +kernel
theorem xw_X12_read_0 {E : xE} {res : xR} {N : Nat} {hd : List Nat} {C : xCT} {k : Nat} {L : List Int} {st : List pv} {H : PH} : xW E res N kd_X12_read xm_X12_read hd C (k + 1) 0 L st H = xB (fun t L st H => if t ∈ hd then xJ E res N kd_X12_read t L st H else xW E res N kd_X12_read xm_X12_read hd C k t L st H) (REPR E res) C (some 16) vb_X12_read_0 0 L st H := Eq.trans rfl rfl
theorem xw_X12_read_16 {E : xE} {res : xR} {N : Nat} {hd : List Nat} {C : xCT} {k : Nat} {L : List Int} {st : List pv} {H : PH} : xW E res N kd_X12_read xm_X12_read hd C (k + 1) 16 L st H = xB (fun t L st H => if t ∈ hd then xJ E res N kd_X12_read t L st H else xW E res N kd_X12_read xm_X12_read hd C k t L st H) (REPR E res) C (some 17) vb_X12_read_16 16 L st H := Eq.trans rfl rfl
theorem xw_X12_read_17 {E : xE} {res : xR} {N : Nat} {hd : List Nat} {C : xCT} {k : Nat} {L : List Int} {st : List pv} {H : PH} : xW E res N kd_X12_read xm_X12_read hd C (k + 1) 17 L st H = xB (fun t L st H => if t ∈ hd then xJ E res N kd_X12_read t L st H else xW E res N kd_X12_read xm_X12_read hd C k t L st H) (REPR E res) C (none) vb_X12_read_17 17 L st H := Eq.trans rfl rfl
def xm_X12_shed : List xbT := [(0, vb_X12_shed_0, some 16), (16, vb_X12_shed_16, some 17), (17, vb_X12_shed_17, none)]
theorem xc_X12_shed : xOK kd_X12_shed xm_X12_shed := ⟨ve_X12_shed_0, ve_X12_shed_16, ve_X12_shed_17, trivial⟩
theorem xa_X12_shed : xm_X12_shed.all (fun q => aOKb q.2.1 && !q.2.1.isEmpty) = true := by decide +kernel
theorem xw_X12_shed_0 {E : xE} {res : xR} {N : Nat} {hd : List Nat} {C : xCT} {k : Nat} {L : List Int} {st : List pv} {H : PH} : xW E res N kd_X12_shed xm_X12_shed hd C (k + 1) 0 L st H = xB (fun t L st H => if t ∈ hd then xJ E res N kd_X12_shed t L st H else xW E res N kd_X12_shed xm_X12_shed hd C k t L st H) (REPR E res) C (some 16) vb_X12_shed_0 0 L st H := Eq.trans rfl rfl
theorem xw_X12_shed_16 {E : xE} {res : xR} {N : Nat} {hd : List Nat} {C : xCT} {k : Nat} {L : List Int} {st : List pv} {H : PH} : xW E res N kd_X12_shed xm_X12_shed hd C (k + 1) 16 L st H = xB (fun t L st H => if t ∈ hd then xJ E res N kd_X12_shed t L st H else xW E res N kd_X12_shed xm_X12_shed hd C k t L st H) (REPR E res) C (some 17) vb_X12_shed_16 16 L st H := Eq.trans rfl rfl
theorem xw_X12_shed_17 {E : xE} {res : xR} {N : Nat} {hd : List Nat} {C : xCT} {k : Nat} {L : List Int} {st : List pv} {H : PH} : xW E res N kd_X12_shed xm_X12_shed hd C (k + 1) 17 L st H = xB (fun t L st H => if t ∈ hd then xJ E res N kd_X12_shed t L st H else xW E res N kd_X12_shed xm_X12_shed hd C k t L st H) (REPR E res) C (none) vb_X12_shed_17 17 L st H := Eq.trans rfl rfl
def xm_X12_matched : List xbT := [(0, vb_X12_matched_0, some 11), (11, vb_X12_matched_11, some 26), (26, vb_X12_matched_26, some 30), (30, vb_X12_matched_30, none)]
theorem xc_X12_matched : xOK kd_X12_matched xm_X12_matched := ⟨ve_X12_matched_0, ve_X12_matched_11, ve_X12_matched_26, ve_X12_matched_30, trivial⟩
theorem xa_X12_matched : xm_X12_matched.all (fun q => aOKb q.2.1 && !q.2.1.isEmpty) = true := by decide +kernel
theorem xw_X12_matched_0 {E : xE} {res : xR} {N : Nat} {hd : List Nat} {C : xCT} {k : Nat} {L : List Int} {st : List pv} {H : PH} : xW E res N kd_X12_matched xm_X12_matched hd C (k + 1) 0 L st H = xB (fun t L st H => if t ∈ hd then xJ E res N kd_X12_matched t L st H else xW E res N kd_X12_matched xm_X12_matched hd C k t L st H) (REPR E res) C (some 11) vb_X12_matched_0 0 L st H := Eq.trans rfl rfl
theorem xw_X12_matched_11 {E : xE} {res : xR} {N : Nat} {hd : List Nat} {C : xCT} {k : Nat} {L : List Int} {st : List pv} {H : PH} : xW E res N kd_X12_matched xm_X12_matched hd C (k + 1) 11 L st H = xB (fun t L st H => if t ∈ hd then xJ E res N kd_X12_matched t L st H else xW E res N kd_X12_matched xm_X12_matched hd C k t L st H) (REPR E res) C (some 26) vb_X12_matched_11 11 L st H := Eq.trans rfl rfl
theorem xw_X12_matched_26 {E : xE} {res : xR} {N : Nat} {hd : List Nat} {C : xCT} {k : Nat} {L : List Int} {st : List pv} {H : PH} : xW E res N kd_X12_matched xm_X12_matched hd C (k + 1) 26 L st H = xB (fun t L st H => if t ∈ hd then xJ E res N kd_X12_matched t L st H else xW E res N kd_X12_matched xm_X12_matched hd C k t L st H) (REPR E res) C (some 30) vb_X12_matched_26 26 L st H := Eq.trans rfl rfl
theorem xw_X12_matched_30 {E : xE} {res : xR} {N : Nat} {hd : List Nat} {C : xCT} {k : Nat} {L : List Int} {st : List pv} {H : PH} : xW E res N kd_X12_matched xm_X12_matched hd C (k + 1) 30 L st H = xB (fun t L st H => if t ∈ hd then xJ E res N kd_X12_matched t L st H else xW E res N kd_X12_matched xm_X12_matched hd C k t L st H) (REPR E res) C (none) vb_X12_matched_30 30 L st H := Eq.trans rfl rfl
def xm_X12_apart : List xbT := [(0, vb_X12_apart_0, some 25), (25, vb_X12_apart_25, some 26), (26, vb_X12_apart_26, none)]
theorem xc_X12_apart : xOK kd_X12_apart xm_X12_apart := ⟨ve_X12_apart_0, ve_X12_apart_25, ve_X12_apart_26, trivial⟩
theorem xa_X12_apart : xm_X12_apart.all (fun q => aOKb q.2.1 && !q.2.1.isEmpty) = true := by decide +kernel
theorem xw_X12_apart_0 {E : xE} {res : xR} {N : Nat} {hd : List Nat} {C : xCT} {k : Nat} {L : List Int} {st : List pv} {H : PH} : xW E res N kd_X12_apart xm_X12_apart hd C (k + 1) 0 L st H = xB (fun t L st H => if t ∈ hd then xJ E res N kd_X12_apart t L st H else xW E res N kd_X12_apart xm_X12_apart hd C k t L st H) (REPR E res) C (some 25) vb_X12_apart_0 0 L st H := Eq.trans rfl rfl
theorem xw_X12_apart_25 {E : xE} {res : xR} {N : Nat} {hd : List Nat} {C : xCT} {k : Nat} {L : List Int} {st : List pv} {H : PH} : xW E res N kd_X12_apart xm_X12_apart hd C (k + 1) 25 L st H = xB (fun t L st H => if t ∈ hd then xJ E res N kd_X12_apart t L st H else xW E res N kd_X12_apart xm_X12_apart hd C k t L st H) (REPR E res) C (some 26) vb_X12_apart_25 25 L st H := Eq.trans rfl rfl
theorem xw_X12_apart_26 {E : xE} {res : xR} {N : Nat} {hd : List Nat} {C : xCT} {k : Nat} {L : List Int} {st : List pv} {H : PH} : xW E res N kd_X12_apart xm_X12_apart hd C (k + 1) 26 L st H = xB (fun t L st H => if t ∈ hd then xJ E res N kd_X12_apart t L st H else xW E res N kd_X12_apart xm_X12_apart hd C k t L st H) (REPR E res) C (none) vb_X12_apart_26 26 L st H := Eq.trans rfl rfl
def xm_X12_least : List xbT := [(0, vb_X12_least_0, some 10), (10, vb_X12_least_10, some 50), (50, vb_X12_least_50, some 51), (51, vb_X12_least_51, none)]
theorem xc_X12_least : xOK kd_X12_least xm_X12_least := ⟨ve_X12_least_0, ve_X12_least_10, ve_X12_least_50, ve_X12_least_51, trivial⟩
theorem xa_X12_least : xm_X12_least.all (fun q => aOKb q.2.1 && !q.2.1.isEmpty) = true := by decide +kernel
theorem xw_X12_least_0 {E : xE} {res : xR} {N : Nat} {hd : List Nat} {C : xCT} {k : Nat} {L : List Int} {st : List pv} {H : PH} : xW E res N kd_X12_least xm_X12_least hd C (k + 1) 0 L st H = xB (fun t L st H => if t ∈ hd then xJ E res N kd_X12_least t L st H else xW E res N kd_X12_least xm_X12_least hd C k t L st H) (REPR E res) C (some 10) vb_X12_least_0 0 L st H := Eq.trans rfl rfl
theorem xw_X12_least_10 {E : xE} {res : xR} {N : Nat} {hd : List Nat} {C : xCT} {k : Nat} {L : List Int} {st : List pv} {H : PH} : xW E res N kd_X12_least xm_X12_least hd C (k + 1) 10 L st H = xB (fun t L st H => if t ∈ hd then xJ E res N kd_X12_least t L st H else xW E res N kd_X12_least xm_X12_least hd C k t L st H) (REPR E res) C (some 50) vb_X12_least_10 10 L st H := Eq.trans rfl rfl
theorem xw_X12_least_50 {E : xE} {res : xR} {N : Nat} {hd : List Nat} {C : xCT} {k : Nat} {L : List Int} {st : List pv} {H : PH} : xW E res N kd_X12_least xm_X12_least hd C (k + 1) 50 L st H = xB (fun t L st H => if t ∈ hd then xJ E res N kd_X12_least t L st H else xW E res N kd_X12_least xm_X12_least hd C k t L st H) (REPR E res) C (some 51) vb_X12_least_50 50 L st H := Eq.trans rfl rfl
theorem xw_X12_least_51 {E : xE} {res : xR} {N : Nat} {hd : List Nat} {C : xCT} {k : Nat} {L : List Int} {st : List pv} {H : PH} : xW E res N kd_X12_least xm_X12_least hd C (k + 1) 51 L st H = xB (fun t L st H => if t ∈ hd then xJ E res N kd_X12_least t L st H else xW E res N kd_X12_least xm_X12_least hd C k t L st H) (REPR E res) C (none) vb_X12_least_51 51 L st H := Eq.trans rfl rfl
def xm_X12_brought : List xbT := [(0, vb_X12_brought_0, some 44), (44, vb_X12_brought_44, some 45), (45, vb_X12_brought_45, none)]
theorem xc_X12_brought : xOK kd_X12_brought xm_X12_brought := ⟨ve_X12_brought_0, ve_X12_brought_44, ve_X12_brought_45, trivial⟩
theorem xa_X12_brought : xm_X12_brought.all (fun q => aOKb q.2.1 && !q.2.1.isEmpty) = true := by decide +kernel
theorem xw_X12_brought_0 {E : xE} {res : xR} {N : Nat} {hd : List Nat} {C : xCT} {k : Nat} {L : List Int} {st : List pv} {H : PH} : xW E res N kd_X12_brought xm_X12_brought hd C (k + 1) 0 L st H = xB (fun t L st H => if t ∈ hd then xJ E res N kd_X12_brought t L st H else xW E res N kd_X12_brought xm_X12_brought hd C k t L st H) (REPR E res) C (some 44) vb_X12_brought_0 0 L st H := Eq.trans rfl rfl
theorem xw_X12_brought_44 {E : xE} {res : xR} {N : Nat} {hd : List Nat} {C : xCT} {k : Nat} {L : List Int} {st : List pv} {H : PH} : xW E res N kd_X12_brought xm_X12_brought hd C (k + 1) 44 L st H = xB (fun t L st H => if t ∈ hd then xJ E res N kd_X12_brought t L st H else xW E res N kd_X12_brought xm_X12_brought hd C k t L st H) (REPR E res) C (some 45) vb_X12_brought_44 44 L st H := Eq.trans rfl rfl
theorem xw_X12_brought_45 {E : xE} {res : xR} {N : Nat} {hd : List Nat} {C : xCT} {k : Nat} {L : List Int} {st : List pv} {H : PH} : xW E res N kd_X12_brought xm_X12_brought hd C (k + 1) 45 L st H = xB (fun t L st H => if t ∈ hd then xJ E res N kd_X12_brought t L st H else xW E res N kd_X12_brought xm_X12_brought hd C k t L st H) (REPR E res) C (none) vb_X12_brought_45 45 L st H := Eq.trans rfl rfl
def xm_X12_heap : List xbT := [(0, vb_X12_heap_0, some 11), (11, vb_X12_heap_11, some 31), (31, vb_X12_heap_31, some 49), (49, vb_X12_heap_49, some 63), (63, vb_X12_heap_63, some 77), (77, vb_X12_heap_77, some 91), (91, vb_X12_heap_91, some 97), (97, vb_X12_heap_97, none)]
theorem xc_X12_heap : xOK kd_X12_heap xm_X12_heap := ⟨ve_X12_heap_0, ve_X12_heap_11, ve_X12_heap_31, ve_X12_heap_49, ve_X12_heap_63, ve_X12_heap_77, ve_X12_heap_91, ve_X12_heap_97, trivial⟩
theorem xa_X12_heap : xm_X12_heap.all (fun q => aOKb q.2.1 && !q.2.1.isEmpty) = true := by decide +kernel
theorem xw_X12_heap_0 {E : xE} {res : xR} {N : Nat} {hd : List Nat} {C : xCT} {k : Nat} {L : List Int} {st : List pv} {H : PH} : xW E res N kd_X12_heap xm_X12_heap hd C (k + 1) 0 L st H = xB (fun t L st H => if t ∈ hd then xJ E res N kd_X12_heap t L st H else xW E res N kd_X12_heap xm_X12_heap hd C k t L st H) (REPR E res) C (some 11) vb_X12_heap_0 0 L st H := Eq.trans rfl rfl
theorem xw_X12_heap_11 {E : xE} {res : xR} {N : Nat} {hd : List Nat} {C : xCT} {k : Nat} {L : List Int} {st : List pv} {H : PH} : xW E res N kd_X12_heap xm_X12_heap hd C (k + 1) 11 L st H = xB (fun t L st H => if t ∈ hd then xJ E res N kd_X12_heap t L st H else xW E res N kd_X12_heap xm_X12_heap hd C k t L st H) (REPR E res) C (some 31) vb_X12_heap_11 11 L st H := Eq.trans rfl rfl
theorem xw_X12_heap_31 {E : xE} {res : xR} {N : Nat} {hd : List Nat} {C : xCT} {k : Nat} {L : List Int} {st : List pv} {H : PH} : xW E res N kd_X12_heap xm_X12_heap hd C (k + 1) 31 L st H = xB (fun t L st H => if t ∈ hd then xJ E res N kd_X12_heap t L st H else xW E res N kd_X12_heap xm_X12_heap hd C k t L st H) (REPR E res) C (some 49) vb_X12_heap_31 31 L st H := Eq.trans rfl rfl
theorem xw_X12_heap_49 {E : xE} {res : xR} {N : Nat} {hd : List Nat} {C : xCT} {k : Nat} {L : List Int} {st : List pv} {H : PH} : xW E res N kd_X12_heap xm_X12_heap hd C (k + 1) 49 L st H = xB (fun t L st H => if t ∈ hd then xJ E res N kd_X12_heap t L st H else xW E res N kd_X12_heap xm_X12_heap hd C k t L st H) (REPR E res) C (some 63) vb_X12_heap_49 49 L st H := Eq.trans rfl rfl
theorem xw_X12_heap_63 {E : xE} {res : xR} {N : Nat} {hd : List Nat} {C : xCT} {k : Nat} {L : List Int} {st : List pv} {H : PH} : xW E res N kd_X12_heap xm_X12_heap hd C (k + 1) 63 L st H = xB (fun t L st H => if t ∈ hd then xJ E res N kd_X12_heap t L st H else xW E res N kd_X12_heap xm_X12_heap hd C k t L st H) (REPR E res) C (some 77) vb_X12_heap_63 63 L st H := Eq.trans rfl rfl
theorem xw_X12_heap_77 {E : xE} {res : xR} {N : Nat} {hd : List Nat} {C : xCT} {k : Nat} {L : List Int} {st : List pv} {H : PH} : xW E res N kd_X12_heap xm_X12_heap hd C (k + 1) 77 L st H = xB (fun t L st H => if t ∈ hd then xJ E res N kd_X12_heap t L st H else xW E res N kd_X12_heap xm_X12_heap hd C k t L st H) (REPR E res) C (some 91) vb_X12_heap_77 77 L st H := Eq.trans rfl rfl
theorem xw_X12_heap_91 {E : xE} {res : xR} {N : Nat} {hd : List Nat} {C : xCT} {k : Nat} {L : List Int} {st : List pv} {H : PH} : xW E res N kd_X12_heap xm_X12_heap hd C (k + 1) 91 L st H = xB (fun t L st H => if t ∈ hd then xJ E res N kd_X12_heap t L st H else xW E res N kd_X12_heap xm_X12_heap hd C k t L st H) (REPR E res) C (some 97) vb_X12_heap_91 91 L st H := Eq.trans rfl rfl
theorem xw_X12_heap_97 {E : xE} {res : xR} {N : Nat} {hd : List Nat} {C : xCT} {k : Nat} {L : List Int} {st : List pv} {H : PH} : xW E res N kd_X12_heap xm_X12_heap hd C (k + 1) 97 L st H = xB (fun t L st H => if t ∈ hd then xJ E res N kd_X12_heap t L st H else xW E res N kd_X12_heap xm_X12_heap hd C k t L st H) (REPR E res) C (none) vb_X12_heap_97 97 L st H := Eq.trans rfl rfl
def xm_X12_tally : List xbT := [(0, vb_X12_tally_0, some 18), (18, vb_X12_tally_18, some 20), (20, vb_X12_tally_20, some 72), (72, vb_X12_tally_72, some 79), (79, vb_X12_tally_79, some 86), (86, vb_X12_tally_86, some 93), (93, vb_X12_tally_93, some 99), (99, vb_X12_tally_99, some 116), (116, vb_X12_tally_116, some 133), (133, vb_X12_tally_133, some 140), (140, vb_X12_tally_140, some 147), (147, vb_X12_tally_147, none)]
theorem xc_X12_tally : xOK kd_X12_tally xm_X12_tally := ⟨ve_X12_tally_0, ve_X12_tally_18, ve_X12_tally_20, ve_X12_tally_72, ve_X12_tally_79, ve_X12_tally_86, ve_X12_tally_93, ve_X12_tally_99, ve_X12_tally_116, ve_X12_tally_133, ve_X12_tally_140, ve_X12_tally_147, trivial⟩
theorem xa_X12_tally : xm_X12_tally.all (fun q => aOKb q.2.1 && !q.2.1.isEmpty) = true := by decide +kernel
theorem xw_X12_tally_0 {E : xE} {res : xR} {N : Nat} {hd : List Nat} {C : xCT} {k : Nat} {L : List Int} {st : List pv} {H : PH} : xW E res N kd_X12_tally xm_X12_tally hd C (k + 1) 0 L st H = xB (fun t L st H => if t ∈ hd then xJ E res N kd_X12_tally t L st H else xW E res N kd_X12_tally xm_X12_tally hd C k t L st H) (REPR E res) C (some 18) vb_X12_tally_0 0 L st H := Eq.trans rfl rfl
theorem xw_X12_tally_18 {E : xE} {res : xR} {N : Nat} {hd : List Nat} {C : xCT} {k : Nat} {L : List Int} {st : List pv} {H : PH} : xW E res N kd_X12_tally xm_X12_tally hd C (k + 1) 18 L st H = xB (fun t L st H => if t ∈ hd then xJ E res N kd_X12_tally t L st H else xW E res N kd_X12_tally xm_X12_tally hd C k t L st H) (REPR E res) C (some 20) vb_X12_tally_18 18 L st H := Eq.trans rfl rfl
theorem xw_X12_tally_20 {E : xE} {res : xR} {N : Nat} {hd : List Nat} {C : xCT} {k : Nat} {L : List Int} {st : List pv} {H : PH} : xW E res N kd_X12_tally xm_X12_tally hd C (k + 1) 20 L st H = xB (fun t L st H => if t ∈ hd then xJ E res N kd_X12_tally t L st H else xW E res N kd_X12_tally xm_X12_tally hd C k t L st H) (REPR E res) C (some 72) vb_X12_tally_20 20 L st H := Eq.trans rfl rfl
theorem xw_X12_tally_72 {E : xE} {res : xR} {N : Nat} {hd : List Nat} {C : xCT} {k : Nat} {L : List Int} {st : List pv} {H : PH} : xW E res N kd_X12_tally xm_X12_tally hd C (k + 1) 72 L st H = xB (fun t L st H => if t ∈ hd then xJ E res N kd_X12_tally t L st H else xW E res N kd_X12_tally xm_X12_tally hd C k t L st H) (REPR E res) C (some 79) vb_X12_tally_72 72 L st H := Eq.trans rfl rfl
theorem xw_X12_tally_79 {E : xE} {res : xR} {N : Nat} {hd : List Nat} {C : xCT} {k : Nat} {L : List Int} {st : List pv} {H : PH} : xW E res N kd_X12_tally xm_X12_tally hd C (k + 1) 79 L st H = xB (fun t L st H => if t ∈ hd then xJ E res N kd_X12_tally t L st H else xW E res N kd_X12_tally xm_X12_tally hd C k t L st H) (REPR E res) C (some 86) vb_X12_tally_79 79 L st H := Eq.trans rfl rfl
theorem xw_X12_tally_86 {E : xE} {res : xR} {N : Nat} {hd : List Nat} {C : xCT} {k : Nat} {L : List Int} {st : List pv} {H : PH} : xW E res N kd_X12_tally xm_X12_tally hd C (k + 1) 86 L st H = xB (fun t L st H => if t ∈ hd then xJ E res N kd_X12_tally t L st H else xW E res N kd_X12_tally xm_X12_tally hd C k t L st H) (REPR E res) C (some 93) vb_X12_tally_86 86 L st H := Eq.trans rfl rfl
theorem xw_X12_tally_93 {E : xE} {res : xR} {N : Nat} {hd : List Nat} {C : xCT} {k : Nat} {L : List Int} {st : List pv} {H : PH} : xW E res N kd_X12_tally xm_X12_tally hd C (k + 1) 93 L st H = xB (fun t L st H => if t ∈ hd then xJ E res N kd_X12_tally t L st H else xW E res N kd_X12_tally xm_X12_tally hd C k t L st H) (REPR E res) C (some 99) vb_X12_tally_93 93 L st H := Eq.trans rfl rfl
theorem xw_X12_tally_99 {E : xE} {res : xR} {N : Nat} {hd : List Nat} {C : xCT} {k : Nat} {L : List Int} {st : List pv} {H : PH} : xW E res N kd_X12_tally xm_X12_tally hd C (k + 1) 99 L st H = xB (fun t L st H => if t ∈ hd then xJ E res N kd_X12_tally t L st H else xW E res N kd_X12_tally xm_X12_tally hd C k t L st H) (REPR E res) C (some 116) vb_X12_tally_99 99 L st H := Eq.trans rfl rfl
theorem xw_X12_tally_116 {E : xE} {res : xR} {N : Nat} {hd : List Nat} {C : xCT} {k : Nat} {L : List Int} {st : List pv} {H : PH} : xW E res N kd_X12_tally xm_X12_tally hd C (k + 1) 116 L st H = xB (fun t L st H => if t ∈ hd then xJ E res N kd_X12_tally t L st H else xW E res N kd_X12_tally xm_X12_tally hd C k t L st H) (REPR E res) C (some 133) vb_X12_tally_116 116 L st H := Eq.trans rfl rfl
theorem xw_X12_tally_133 {E : xE} {res : xR} {N : Nat} {hd : List Nat} {C : xCT} {k : Nat} {L : List Int} {st : List pv} {H : PH} : xW E res N kd_X12_tally xm_X12_tally hd C (k + 1) 133 L st H = xB (fun t L st H => if t ∈ hd then xJ E res N kd_X12_tally t L st H else xW E res N kd_X12_tally xm_X12_tally hd C k t L st H) (REPR E res) C (some 140) vb_X12_tally_133 133 L st H := Eq.trans rfl rfl
theorem xw_X12_tally_140 {E : xE} {res : xR} {N : Nat} {hd : List Nat} {C : xCT} {k : Nat} {L : List Int} {st : List pv} {H : PH} : xW E res N kd_X12_tally xm_X12_tally hd C (k + 1) 140 L st H = xB (fun t L st H => if t ∈ hd then xJ E res N kd_X12_tally t L st H else xW E res N kd_X12_tally xm_X12_tally hd C k t L st H) (REPR E res) C (some 147) vb_X12_tally_140 140 L st H := Eq.trans rfl rfl
theorem xw_X12_tally_147 {E : xE} {res : xR} {N : Nat} {hd : List Nat} {C : xCT} {k : Nat} {L : List Int} {st : List pv} {H : PH} : xW E res N kd_X12_tally xm_X12_tally hd C (k + 1) 147 L st H = xB (fun t L st H => if t ∈ hd then xJ E res N kd_X12_tally t L st H else xW E res N kd_X12_tally xm_X12_tally hd C k t L st H) (REPR E res) C (none) vb_X12_tally_147 147 L st H := Eq.trans rfl rfl
/-! ===== queries of the model, with their answers ===== -/
theorem MQs_trans {H H1 H2 : PH} (a : MQs H H1) (b : MQs H1 H2) : MQs H H2 := ⟨MO_trans a.1 b.1, b.2.1.trans a.2.1, b.2.2.1.trans a.2.2.1, b.2.2.2.1.trans a.2.2.2.1, b.2.2.2.2.trans a.2.2.2.2⟩
theorem nrS_f {f : Int → Int} {b : Int} {s : nS} (h : 0 < s.1 → f s.2.1 = s.2.2) : 0 < (nrS f b s).1 → f (nrS f b s).2.1 = (nrS f b s).2.2 := by
  unfold nrS
  dsimp only
  by_cases c1 : 0 < s.1 ∧ s.2.2 < f b
  · simp only [if_pos c1]
    exact h
  · simp only [if_neg c1]
    by_cases c2 : 0 < s.1 ∧ f b = s.2.2
    · simp only [if_pos c2]
      intro _
      rw [h c2.1]
      exact c2.2.symm
    · simp only [if_neg c2]
      intro _
      first | rfl | trivial
theorem nrF_f {f : Int → Int} : ∀ (n : Nat) (b : Int) (s : nS), (0 < s.1 → f s.2.1 = s.2.2) → 0 < (nrF f n b s).1 → f (nrF f n b s).2.1 = (nrF f n b s).2.2
  | 0, _, _, h => h
  | n + 1, b, s, h => by
    unfold nrF
    exact nrF_f n (b + 1) _ (nrS_f h)
theorem nr_least {A : Int → Int} {k : Int} : (if (nrZ A (404 + 12 * k + 3) (404 + 12 * k + 4)).1 = 1 ∧ (nrZ A (404 + 12 * k + 3) (404 + 12 * k + 4)).2.2 ≤ 20 then (nrZ A (404 + 12 * k + 3) (404 + 12 * k + 4)).2.2 else -1) = (if 0 ≤ rdM (lapA A k) (A 0) 20 then lapA A k (rdM (lapA A k) (A 0) 20) else -1) := by
  have e : nrZ A (404 + 12 * k + 3) (404 + 12 * k + 4) = nrF (lapA A k) (A 0).toNat 0 (0, 0, 0) := rfl
  have h := rbF_n (most := 20) (f := lapA A k) (A 0).toNat 0 (0, 0, 0) (-3, 20 + 1) (by omega) (Or.inl ⟨rfl, rfl, rfl⟩)
  have g := nrF_f (f := lapA A k) (A 0).toNat 0 (0, 0, 0) (fun w => absurd w (by decide))
  have er : rdM (lapA A k) (A 0) 20 = (rbF (lapA A k) (A 0).toNat 0 (-3, 20 + 1)).1 := rfl
  rw [e, er]
  generalize nrF (lapA A k) (A 0).toNat 0 (0, 0, 0) = t at h g ⊢
  generalize rbF (lapA A k) (A 0).toNat 0 (-3, 20 + 1) = s at h ⊢
  rcases h with ⟨h1, h2, h3⟩ | ⟨h1, h2, h3, h4⟩ | ⟨h1, h2, h3, h4, h5⟩ | ⟨h1, h2, h3, h4⟩
  · rw [if_neg (by omega), if_neg (by omega)]
  · rw [if_neg (by omega), if_neg (by omega)]
  · rw [if_pos ⟨h1, h2⟩, if_pos (by omega), h3]
    exact (g (by omega)).symm
  · rw [if_neg (by omega), if_neg (by omega)]
set_option maxRecDepth 100000 in
theorem sp_m_read (k : Int) (H : PH) (ok : OKR (H 591)) : SPEC 204 [(2, 590), (0, k)] H (fun r H' => r = some (0, rdQ (H 591) k) ∧ MQs H H') := by
  intro E n' res h
  have a0 := ok.1.1
  have a2 := ok.1.2.2.1
  have os := ok.2.2.1
  unfold OKS at os
  have z0 : zw (H 591 0 - 1) = H 591 0 - 1 := zw_lit (by omega) (by omega)
  have z2 : zw (H 591 2 - 1) = H 591 2 - 1 := zw_lit (by omega) (by omega)
  by_cases qk : 0 ≤ k ∧ k ≤ H 591 2 - 1
  · have k0 := qk.1
    have k1 := qk.2
    have k2 : ¬ k < 0 := by omega
    have k3 : ¬ H 591 2 - 1 < k := by omega
    have h := call_runP 2 vm_X12_read h
    have h := xw_top (hd := []) 5 xD6_ok xc_X12_read xa_X12_read (t := 0) rfl h
    simp (maxDischargeDepth := 12) -implicitDefEqProofs [vb_X12_read_0, vb_X12_read_16, vb_X12_read_17, xI_0, xI_1, xI_7, xI_36, xI_37, xI_61, xI_62, xw_X12_read_0, xw_X12_read_16, xw_X12_read_17, zw_lit, xB_c, xB_s, xB_n, i1_c, j2_c, k1_c, jJ_e, xlg, xls, xla, xpd, ppush, zw_m1, zw_m2, zw_m3, xD1, xD2, xD3, xD4, xD5, xD6, xb1_0, z2, k0, k1, k2, k3] at h
    obtain ⟨r, H1, ⟨rfl, sc⟩, g⟩ := xc_use h (sp_X12_lineRead k H ok.1 ⟨k0, by omega⟩)
    exact ⟨_, H1, g, by unfold rdQ; rw [if_pos (by omega)], MQs_SC sc (by decide) (by decide)⟩
  · by_cases k0 : 0 ≤ k
    · have k1 : ¬ k ≤ H 591 2 - 1 := by omega
      have k2 : ¬ k < 0 := by omega
      have k3 : H 591 2 - 1 < k := by omega
      have h := call_runP 2 vm_X12_read h
      have h := xw_top (hd := []) 5 xD6_ok xc_X12_read xa_X12_read (t := 0) rfl h
      simp (maxDischargeDepth := 12) -implicitDefEqProofs [vb_X12_read_0, vb_X12_read_16, vb_X12_read_17, xI_0, xI_1, xI_7, xI_36, xI_37, xI_61, xI_62, xw_X12_read_0, xw_X12_read_16, xw_X12_read_17, zw_lit, xB_c, xB_s, xB_n, i1_c, j2_c, k1_c, jJ_e, xlg, xls, xla, xpd, ppush, zw_m1, zw_m2, zw_m3, xD1, xD2, xD3, xD4, xD5, xD6, xb1_0, z2, k0, k1, k2, k3] at h
      exact ⟨_, H, h, by unfold rdQ; rw [if_neg (by omega)], MQs_refl⟩
    · have k2 : k < 0 := by omega
      have h := call_runP 2 vm_X12_read h
      have h := xw_top (hd := []) 5 xD6_ok xc_X12_read xa_X12_read (t := 0) rfl h
      simp (maxDischargeDepth := 12) -implicitDefEqProofs [vb_X12_read_0, vb_X12_read_16, vb_X12_read_17, xI_0, xI_1, xI_7, xI_36, xI_37, xI_61, xI_62, xw_X12_read_0, xw_X12_read_16, xw_X12_read_17, zw_lit, xB_c, xB_s, xB_n, i1_c, j2_c, k1_c, jJ_e, xlg, xls, xla, xpd, ppush, zw_m1, zw_m2, zw_m3, xD1, xD2, xD3, xD4, xD5, xD6, xb1_0, z2, k0, k2] at h
      exact ⟨_, H, h, by unfold rdQ; rw [if_neg (by omega)], MQs_refl⟩
set_option maxRecDepth 100000 in
theorem sp_m_shed (b : Int) (H : PH) (ok : OKR (H 591)) : SPEC 252 [(2, 590), (0, b)] H (fun r H' => r = some (0, shQ (H 591) b) ∧ MQs H H') := by
  intro E n' res h
  have a0 := ok.1.1
  have a2 := ok.1.2.2.1
  have os := ok.2.2.1
  unfold OKS at os
  have z0 : zw (H 591 0 - 1) = H 591 0 - 1 := zw_lit (by omega) (by omega)
  have z2 : zw (H 591 2 - 1) = H 591 2 - 1 := zw_lit (by omega) (by omega)
  by_cases qb : 0 ≤ b ∧ b ≤ H 591 0 - 1
  · have b0 := qb.1
    have b1 := qb.2
    have b2 : ¬ b < 0 := by omega
    have b3 : ¬ H 591 0 - 1 < b := by omega
    have h := call_runP 2 vm_X12_shed h
    have h := xw_top (hd := []) 5 xD6_ok xc_X12_shed xa_X12_shed (t := 0) rfl h
    simp (maxDischargeDepth := 12) -implicitDefEqProofs [vb_X12_shed_0, vb_X12_shed_16, vb_X12_shed_17, xI_0, xI_1, xI_7, xI_36, xI_37, xI_61, xI_62, xw_X12_shed_0, xw_X12_shed_16, xw_X12_shed_17, zw_lit, xB_c, xB_s, xB_n, i1_c, j2_c, k1_c, jJ_e, xlg, xls, xla, xpd, ppush, zw_m1, zw_m2, zw_m3, xD1, xD2, xD3, xD4, xD5, xD6, xb1_0, z0, b0, b1, b2, b3] at h
    obtain ⟨r, H1, ⟨rfl, sc⟩, g⟩ := xc_use h (sp_X12_shedOf b H ⟨b0, by omega⟩ ok.1 ok.2.1 os.2.1)
    exact ⟨_, H1, g, by unfold shQ; rw [if_pos (by omega)], MQs_SCa sc⟩
  · by_cases b0 : 0 ≤ b
    · have b1 : ¬ b ≤ H 591 0 - 1 := by omega
      have b2 : ¬ b < 0 := by omega
      have b3 : H 591 0 - 1 < b := by omega
      have h := call_runP 2 vm_X12_shed h
      have h := xw_top (hd := []) 5 xD6_ok xc_X12_shed xa_X12_shed (t := 0) rfl h
      simp (maxDischargeDepth := 12) -implicitDefEqProofs [vb_X12_shed_0, vb_X12_shed_16, vb_X12_shed_17, xI_0, xI_1, xI_7, xI_36, xI_37, xI_61, xI_62, xw_X12_shed_0, xw_X12_shed_16, xw_X12_shed_17, zw_lit, xB_c, xB_s, xB_n, i1_c, j2_c, k1_c, jJ_e, xlg, xls, xla, xpd, ppush, zw_m1, zw_m2, zw_m3, xD1, xD2, xD3, xD4, xD5, xD6, xb1_0, z0, b0, b1, b2, b3] at h
      exact ⟨_, H, h, by unfold shQ; rw [if_neg (by omega)], MQs_refl⟩
    · have b2 : b < 0 := by omega
      have h := call_runP 2 vm_X12_shed h
      have h := xw_top (hd := []) 5 xD6_ok xc_X12_shed xa_X12_shed (t := 0) rfl h
      simp (maxDischargeDepth := 12) -implicitDefEqProofs [vb_X12_shed_0, vb_X12_shed_16, vb_X12_shed_17, xI_0, xI_1, xI_7, xI_36, xI_37, xI_61, xI_62, xw_X12_shed_0, xw_X12_shed_16, xw_X12_shed_17, zw_lit, xB_c, xB_s, xB_n, i1_c, j2_c, k1_c, jJ_e, xlg, xls, xla, xpd, ppush, zw_m1, zw_m2, zw_m3, xD1, xD2, xD3, xD4, xD5, xD6, xb1_0, z0, b0, b2] at h
      exact ⟨_, H, h, by unfold shQ; rw [if_neg (by omega)], MQs_refl⟩
set_option maxRecDepth 100000 in
theorem sp_m_matched (w : Int) (H : PH) (ok : OKR (H 591)) : SPEC 221 [(2, 590), (0, w)] H (fun r H' => r = some (0, maQ (H 591) w) ∧ MQs H H') := by
  intro E n' res h
  have a0 := ok.1.1
  have a2 := ok.1.2.2.1
  have os := ok.2.2.1
  unfold OKS at os
  have z0 : zw (H 591 0 - 1) = H 591 0 - 1 := zw_lit (by omega) (by omega)
  have z2 : zw (H 591 2 - 1) = H 591 2 - 1 := zw_lit (by omega) (by omega)
  by_cases qw : 0 ≤ w ∧ w ≤ 1
  · have w0 := qw.1
    have w1 := qw.2
    have w2 : ¬ w < 0 := by omega
    have w3 : ¬ 1 < w := by omega
    have h := call_runP 2 vm_X12_matched h
    have h := xw_top (hd := []) 6 xD6_ok xc_X12_matched xa_X12_matched (t := 0) rfl h
    simp (maxDischargeDepth := 12) -implicitDefEqProofs [vb_X12_matched_0, vb_X12_matched_11, vb_X12_matched_26, vb_X12_matched_30, xI_0, xI_1, xI_7, xI_36, xI_38, xI_49, xI_60, xI_61, xI_62, xw_X12_matched_0, xw_X12_matched_11, xw_X12_matched_26, xw_X12_matched_30, zw_lit, xB_c, xB_s, xB_n, i1_c, j2_c, k1_c, jJ_e, xlg, xls, xla, xpd, ppush, zw_m1, zw_m2, zw_m3, gf_12_31, gf_12_32, tg_12_31, tg_12_32, gv_590_31, gv_590_32, xD1, xD2, xD3, xD4, xD5, xD6, xb1_0, w0, w1, w2, w3] at h
    obtain ⟨r, H1, ⟨rfl, lm, sc⟩, g⟩ := xc_use h (sp_X12_layMatched H ok.1 ok.2.1 os.2.1)
    by_cases c : w = 0
    · have e := lm.2.2.2.2.1
      simp (maxDischargeDepth := 12) -implicitDefEqProofs [vb_X12_matched_0, vb_X12_matched_11, vb_X12_matched_26, vb_X12_matched_30, xI_0, xI_1, xI_7, xI_36, xI_38, xI_49, xI_60, xI_61, xI_62, xw_X12_matched_0, xw_X12_matched_11, xw_X12_matched_26, xw_X12_matched_30, zw_lit, xB_c, xB_s, xB_n, i1_c, j2_c, k1_c, jJ_e, xlg, xls, xla, xpd, ppush, zw_m1, zw_m2, zw_m3, gf_12_31, gf_12_32, tg_12_31, tg_12_32, gv_590_31, gv_590_32, xD1, xD2, xD3, xD4, xD5, xD6, xb1_0, e, c] at g
      exact ⟨_, H1, g, by unfold maQ; rw [if_pos (by omega), if_pos c], MQs_SCa sc⟩
    · have e := lm.2.2.2.2.2.1
      simp (maxDischargeDepth := 12) -implicitDefEqProofs [vb_X12_matched_0, vb_X12_matched_11, vb_X12_matched_26, vb_X12_matched_30, xI_0, xI_1, xI_7, xI_36, xI_38, xI_49, xI_60, xI_61, xI_62, xw_X12_matched_0, xw_X12_matched_11, xw_X12_matched_26, xw_X12_matched_30, zw_lit, xB_c, xB_s, xB_n, i1_c, j2_c, k1_c, jJ_e, xlg, xls, xla, xpd, ppush, zw_m1, zw_m2, zw_m3, gf_12_31, gf_12_32, tg_12_31, tg_12_32, gv_590_31, gv_590_32, xD1, xD2, xD3, xD4, xD5, xD6, xb1_0, e, c] at g
      exact ⟨_, H1, g, by unfold maQ; rw [if_pos (by omega), if_neg c], MQs_SCa sc⟩
  · by_cases w0 : 0 ≤ w
    · have w1 : ¬ w ≤ 1 := by omega
      have w2 : ¬ w < 0 := by omega
      have w3 : 1 < w := by omega
      have h := call_runP 2 vm_X12_matched h
      have h := xw_top (hd := []) 6 xD6_ok xc_X12_matched xa_X12_matched (t := 0) rfl h
      simp (maxDischargeDepth := 12) -implicitDefEqProofs [vb_X12_matched_0, vb_X12_matched_11, vb_X12_matched_26, vb_X12_matched_30, xI_0, xI_1, xI_7, xI_36, xI_38, xI_49, xI_60, xI_61, xI_62, xw_X12_matched_0, xw_X12_matched_11, xw_X12_matched_26, xw_X12_matched_30, zw_lit, xB_c, xB_s, xB_n, i1_c, j2_c, k1_c, jJ_e, xlg, xls, xla, xpd, ppush, zw_m1, zw_m2, zw_m3, gf_12_31, gf_12_32, tg_12_31, tg_12_32, gv_590_31, gv_590_32, xD1, xD2, xD3, xD4, xD5, xD6, xb1_0, w0, w1, w2, w3] at h
      exact ⟨_, H, h, by unfold maQ; rw [if_neg (by omega)], MQs_refl⟩
    · have w2 : w < 0 := by omega
      have h := call_runP 2 vm_X12_matched h
      have h := xw_top (hd := []) 6 xD6_ok xc_X12_matched xa_X12_matched (t := 0) rfl h
      simp (maxDischargeDepth := 12) -implicitDefEqProofs [vb_X12_matched_0, vb_X12_matched_11, vb_X12_matched_26, vb_X12_matched_30, xI_0, xI_1, xI_7, xI_36, xI_38, xI_49, xI_60, xI_61, xI_62, xw_X12_matched_0, xw_X12_matched_11, xw_X12_matched_26, xw_X12_matched_30, zw_lit, xB_c, xB_s, xB_n, i1_c, j2_c, k1_c, jJ_e, xlg, xls, xla, xpd, ppush, zw_m1, zw_m2, zw_m3, gf_12_31, gf_12_32, tg_12_31, tg_12_32, gv_590_31, gv_590_32, xD1, xD2, xD3, xD4, xD5, xD6, xb1_0, w0, w2] at h
      exact ⟨_, H, h, by unfold maQ; rw [if_neg (by omega)], MQs_refl⟩
set_option maxRecDepth 100000 in
theorem sp_m_apart (k b : Int) (H : PH) (ok : OKR (H 591)) : SPEC 200 [(2, 590), (0, k), (0, b)] H (fun r H' => r = some (0, apQ (H 591) k b) ∧ MQs H H') := by
  intro E n' res h
  have a0 := ok.1.1
  have a2 := ok.1.2.2.1
  have os := ok.2.2.1
  unfold OKS at os
  have z0 : zw (H 591 0 - 1) = H 591 0 - 1 := zw_lit (by omega) (by omega)
  have z2 : zw (H 591 2 - 1) = H 591 2 - 1 := zw_lit (by omega) (by omega)
  by_cases qk : 0 ≤ k ∧ k ≤ H 591 2 - 1
  · have k0 := qk.1
    have k1 := qk.2
    have k2 : ¬ k < 0 := by omega
    have k3 : ¬ H 591 2 - 1 < k := by omega
    by_cases qb : 0 ≤ b ∧ b ≤ H 591 0 - 1
    · have b0 := qb.1
      have b1 := qb.2
      have b2 : ¬ b < 0 := by omega
      have b3 : ¬ H 591 0 - 1 < b := by omega
      have h := call_runP 3 vm_X12_apart h
      have h := xw_top (hd := []) 5 xD6_ok xc_X12_apart xa_X12_apart (t := 0) rfl h
      simp (maxDischargeDepth := 12) -implicitDefEqProofs [vb_X12_apart_0, vb_X12_apart_25, vb_X12_apart_26, xI_0, xI_1, xI_7, xI_36, xI_37, xI_61, xI_62, xw_X12_apart_0, xw_X12_apart_25, xw_X12_apart_26, zw_lit, xB_c, xB_s, xB_n, i1_c, j2_c, k1_c, jJ_e, xlg, xls, xla, xpd, ppush, zw_m1, zw_m2, zw_m3, xD1, xD2, xD3, xD4, xD5, xD6, xb1_0, z0, z2, k0, k1, k2, k3, b0, b1, b2, b3] at h
      obtain ⟨r, H1, ⟨rfl, sc⟩, g⟩ := xc_use h (sp_X12_lineApart k b H ok.1 ⟨k0, by omega⟩ ⟨b0, by omega⟩)
      exact ⟨_, H1, g, by unfold apQ; rw [if_pos (by omega)], MQs_SC sc (by decide) (by decide)⟩
    · by_cases b0 : 0 ≤ b
      · have b1 : ¬ b ≤ H 591 0 - 1 := by omega
        have b2 : ¬ b < 0 := by omega
        have b3 : H 591 0 - 1 < b := by omega
        have h := call_runP 3 vm_X12_apart h
        have h := xw_top (hd := []) 5 xD6_ok xc_X12_apart xa_X12_apart (t := 0) rfl h
        simp (maxDischargeDepth := 12) -implicitDefEqProofs [vb_X12_apart_0, vb_X12_apart_25, vb_X12_apart_26, xI_0, xI_1, xI_7, xI_36, xI_37, xI_61, xI_62, xw_X12_apart_0, xw_X12_apart_25, xw_X12_apart_26, zw_lit, xB_c, xB_s, xB_n, i1_c, j2_c, k1_c, jJ_e, xlg, xls, xla, xpd, ppush, zw_m1, zw_m2, zw_m3, xD1, xD2, xD3, xD4, xD5, xD6, xb1_0, z0, z2, k0, k1, k2, k3, b0, b1, b2, b3] at h
        exact ⟨_, H, h, by unfold apQ; rw [if_neg (by omega)], MQs_refl⟩
      · have b2 : b < 0 := by omega
        have h := call_runP 3 vm_X12_apart h
        have h := xw_top (hd := []) 5 xD6_ok xc_X12_apart xa_X12_apart (t := 0) rfl h
        simp (maxDischargeDepth := 12) -implicitDefEqProofs [vb_X12_apart_0, vb_X12_apart_25, vb_X12_apart_26, xI_0, xI_1, xI_7, xI_36, xI_37, xI_61, xI_62, xw_X12_apart_0, xw_X12_apart_25, xw_X12_apart_26, zw_lit, xB_c, xB_s, xB_n, i1_c, j2_c, k1_c, jJ_e, xlg, xls, xla, xpd, ppush, zw_m1, zw_m2, zw_m3, xD1, xD2, xD3, xD4, xD5, xD6, xb1_0, z0, z2, k0, k1, k2, k3, b0, b2] at h
        exact ⟨_, H, h, by unfold apQ; rw [if_neg (by omega)], MQs_refl⟩
  · by_cases k0 : 0 ≤ k
    · have k1 : ¬ k ≤ H 591 2 - 1 := by omega
      have k2 : ¬ k < 0 := by omega
      have k3 : H 591 2 - 1 < k := by omega
      have h := call_runP 3 vm_X12_apart h
      have h := xw_top (hd := []) 5 xD6_ok xc_X12_apart xa_X12_apart (t := 0) rfl h
      simp (maxDischargeDepth := 12) -implicitDefEqProofs [vb_X12_apart_0, vb_X12_apart_25, vb_X12_apart_26, xI_0, xI_1, xI_7, xI_36, xI_37, xI_61, xI_62, xw_X12_apart_0, xw_X12_apart_25, xw_X12_apart_26, zw_lit, xB_c, xB_s, xB_n, i1_c, j2_c, k1_c, jJ_e, xlg, xls, xla, xpd, ppush, zw_m1, zw_m2, zw_m3, xD1, xD2, xD3, xD4, xD5, xD6, xb1_0, z0, z2, k0, k1, k2, k3] at h
      exact ⟨_, H, h, by unfold apQ; rw [if_neg (by omega)], MQs_refl⟩
    · have k2 : k < 0 := by omega
      have h := call_runP 3 vm_X12_apart h
      have h := xw_top (hd := []) 5 xD6_ok xc_X12_apart xa_X12_apart (t := 0) rfl h
      simp (maxDischargeDepth := 12) -implicitDefEqProofs [vb_X12_apart_0, vb_X12_apart_25, vb_X12_apart_26, xI_0, xI_1, xI_7, xI_36, xI_37, xI_61, xI_62, xw_X12_apart_0, xw_X12_apart_25, xw_X12_apart_26, zw_lit, xB_c, xB_s, xB_n, i1_c, j2_c, k1_c, jJ_e, xlg, xls, xla, xpd, ppush, zw_m1, zw_m2, zw_m3, xD1, xD2, xD3, xD4, xD5, xD6, xb1_0, z0, z2, k0, k2] at h
      exact ⟨_, H, h, by unfold apQ; rw [if_neg (by omega)], MQs_refl⟩
set_option maxRecDepth 100000 in
theorem sp_m_least (k : Int) (H : PH) (ok : OKR (H 591)) : SPEC 205 [(2, 590), (0, k)] H (fun r H' => r = some (0, lsQ (H 591) k) ∧ MQs H H') := by
  intro E n' res h
  have a0 := ok.1.1
  have a2 := ok.1.2.2.1
  have os := ok.2.2.1
  unfold OKS at os
  have z0 : zw (H 591 0 - 1) = H 591 0 - 1 := zw_lit (by omega) (by omega)
  have z2 : zw (H 591 2 - 1) = H 591 2 - 1 := zw_lit (by omega) (by omega)
  by_cases qk : 0 ≤ k ∧ k ≤ H 591 2 - 1
  · have k0 := qk.1
    have k1 := qk.2
    have k2 : ¬ k < 0 := by omega
    have k3 : ¬ H 591 2 - 1 < k := by omega
    have zl1 : zw (12 * k) = 12 * k := zw_lit (by omega) (by omega)
    have zl2 : zw (404 + 12 * k) = 404 + 12 * k := zw_lit (by omega) (by omega)
    have zl3 : zw (404 + 12 * k + 3) = 404 + 12 * k + 3 := zw_lit (by omega) (by omega)
    have zl4 : zw (404 + 12 * k + 4) = 404 + 12 * k + 4 := zw_lit (by omega) (by omega)
    have h := call_runP 2 vm_X12_least h
    have h := xw_top (hd := []) 6 xD6_ok xc_X12_least xa_X12_least (t := 0) rfl h
    simp (maxDischargeDepth := 12) -implicitDefEqProofs [vb_X12_least_0, vb_X12_least_10, vb_X12_least_50, vb_X12_least_51, xI_0, xI_1, xI_7, xI_8, xI_14, xI_36, xI_38, xI_44, xI_47, xI_49, xI_60, xI_61, xI_62, xw_X12_least_0, xw_X12_least_10, xw_X12_least_50, xw_X12_least_51, zw_lit, xB_c, xB_s, xB_n, i1_c, j2_c, k1_c, jJ_e, xlg, xls, xla, xpd, ppush, zw_m1, zw_m2, zw_m3, gf_12_17, gf_12_19, tg_12_17, tg_12_19, gv_590_17, gv_590_19, xD1, xD2, xD3, xD4, xD5, xD6, xb1_0, z2, k0, k1, k2, k3, zl1, zl2, zl3, zl4] at h
    obtain ⟨r, H1, ⟨rfl, ⟨x, y, hf⟩, sc⟩, g⟩ := xc_use h (sp_X12_layNear _ _ H ok.1 (by omega) (ok.1.2.2.2.2.2.1 k k0 (by omega)))
    obtain ⟨e1, e2⟩ := nrZ_of hf
    have e1 : H1 590 19 = (nrZ (H 591) (404 + 12 * k + 3) (404 + 12 * k + 4)).1 := e1
    have hq : 0 ≤ k ∧ k < H 591 2 := by omega
    by_cases c : H1 590 19 = 1
    · have e17 : H1 590 17 = (nrZ (H 591) (404 + 12 * k + 3) (404 + 12 * k + 4)).2.2 := congrArg (fun t => t.2.2) (e2 (by show ¬ H1 590 19 = 0; omega))
      by_cases c2 : H1 590 17 ≤ 20
      · have c3 : ¬ 20 < H1 590 17 := by omega
        have v : lsQ (H 591) k = H1 590 17 := by
          unfold lsQ
          rw [if_pos hq, ← nr_least, if_pos ⟨by omega, by omega⟩]
          exact e17.symm
        simp (maxDischargeDepth := 12) -implicitDefEqProofs [vb_X12_least_0, vb_X12_least_10, vb_X12_least_50, vb_X12_least_51, xI_0, xI_1, xI_7, xI_8, xI_14, xI_36, xI_38, xI_44, xI_47, xI_49, xI_60, xI_61, xI_62, xw_X12_least_0, xw_X12_least_10, xw_X12_least_50, xw_X12_least_51, zw_lit, xB_c, xB_s, xB_n, i1_c, j2_c, k1_c, jJ_e, xlg, xls, xla, xpd, ppush, zw_m1, zw_m2, zw_m3, gf_12_17, gf_12_19, tg_12_17, tg_12_19, gv_590_17, gv_590_19, xD1, xD2, xD3, xD4, xD5, xD6, xb1_0, c, c2, c3] at g
        exact ⟨_, H1, g, by rw [v], MQs_SC sc (by decide) (by decide)⟩
      · have c3 : 20 < H1 590 17 := by omega
        have v : lsQ (H 591) k = -1 := by
          unfold lsQ
          rw [if_pos hq, ← nr_least, if_neg (by omega)]
        simp (maxDischargeDepth := 12) -implicitDefEqProofs [vb_X12_least_0, vb_X12_least_10, vb_X12_least_50, vb_X12_least_51, xI_0, xI_1, xI_7, xI_8, xI_14, xI_36, xI_38, xI_44, xI_47, xI_49, xI_60, xI_61, xI_62, xw_X12_least_0, xw_X12_least_10, xw_X12_least_50, xw_X12_least_51, zw_lit, xB_c, xB_s, xB_n, i1_c, j2_c, k1_c, jJ_e, xlg, xls, xla, xpd, ppush, zw_m1, zw_m2, zw_m3, gf_12_17, gf_12_19, tg_12_17, tg_12_19, gv_590_17, gv_590_19, xD1, xD2, xD3, xD4, xD5, xD6, xb1_0, c, c2, c3] at g
        exact ⟨_, H1, g, by rw [v], MQs_SC sc (by decide) (by decide)⟩
    · have v : lsQ (H 591) k = -1 := by
        unfold lsQ
        rw [if_pos hq, ← nr_least, if_neg (by omega)]
      simp (maxDischargeDepth := 12) -implicitDefEqProofs [vb_X12_least_0, vb_X12_least_10, vb_X12_least_50, vb_X12_least_51, xI_0, xI_1, xI_7, xI_8, xI_14, xI_36, xI_38, xI_44, xI_47, xI_49, xI_60, xI_61, xI_62, xw_X12_least_0, xw_X12_least_10, xw_X12_least_50, xw_X12_least_51, zw_lit, xB_c, xB_s, xB_n, i1_c, j2_c, k1_c, jJ_e, xlg, xls, xla, xpd, ppush, zw_m1, zw_m2, zw_m3, gf_12_17, gf_12_19, tg_12_17, tg_12_19, gv_590_17, gv_590_19, xD1, xD2, xD3, xD4, xD5, xD6, xb1_0, c] at g
      exact ⟨_, H1, g, by rw [v], MQs_SC sc (by decide) (by decide)⟩
  · by_cases k0 : 0 ≤ k
    · have k1 : ¬ k ≤ H 591 2 - 1 := by omega
      have k2 : ¬ k < 0 := by omega
      have k3 : H 591 2 - 1 < k := by omega
      have h := call_runP 2 vm_X12_least h
      have h := xw_top (hd := []) 6 xD6_ok xc_X12_least xa_X12_least (t := 0) rfl h
      simp (maxDischargeDepth := 12) -implicitDefEqProofs [vb_X12_least_0, vb_X12_least_10, vb_X12_least_50, vb_X12_least_51, xI_0, xI_1, xI_7, xI_8, xI_14, xI_36, xI_38, xI_44, xI_47, xI_49, xI_60, xI_61, xI_62, xw_X12_least_0, xw_X12_least_10, xw_X12_least_50, xw_X12_least_51, zw_lit, xB_c, xB_s, xB_n, i1_c, j2_c, k1_c, jJ_e, xlg, xls, xla, xpd, ppush, zw_m1, zw_m2, zw_m3, gf_12_17, gf_12_19, tg_12_17, tg_12_19, gv_590_17, gv_590_19, xD1, xD2, xD3, xD4, xD5, xD6, xb1_0, z2, k0, k1, k2, k3] at h
      exact ⟨_, H, h, by unfold lsQ; rw [if_neg (by omega)], MQs_refl⟩
    · have k2 : k < 0 := by omega
      have h := call_runP 2 vm_X12_least h
      have h := xw_top (hd := []) 6 xD6_ok xc_X12_least xa_X12_least (t := 0) rfl h
      simp (maxDischargeDepth := 12) -implicitDefEqProofs [vb_X12_least_0, vb_X12_least_10, vb_X12_least_50, vb_X12_least_51, xI_0, xI_1, xI_7, xI_8, xI_14, xI_36, xI_38, xI_44, xI_47, xI_49, xI_60, xI_61, xI_62, xw_X12_least_0, xw_X12_least_10, xw_X12_least_50, xw_X12_least_51, zw_lit, xB_c, xB_s, xB_n, i1_c, j2_c, k1_c, jJ_e, xlg, xls, xla, xpd, ppush, zw_m1, zw_m2, zw_m3, gf_12_17, gf_12_19, tg_12_17, tg_12_19, gv_590_17, gv_590_19, xD1, xD2, xD3, xD4, xD5, xD6, xb1_0, z2, k0, k2] at h
      exact ⟨_, H, h, by unfold lsQ; rw [if_neg (by omega)], MQs_refl⟩
set_option maxRecDepth 100000 in
theorem sp_m_heap (u w : Int) (H : PH) (ok : OKR (H 591)) : SPEC 219 [(2, 590), (0, u), (0, w)] H (fun r H' => r = some (0, hpQ (H 591) u w) ∧ MQs H H') := by
  intro E n' res h
  have a0 := ok.1.1
  have a2 := ok.1.2.2.1
  have os := ok.2.2.1
  unfold OKS at os
  have z0 : zw (H 591 0 - 1) = H 591 0 - 1 := zw_lit (by omega) (by omega)
  have z2 : zw (H 591 2 - 1) = H 591 2 - 1 := zw_lit (by omega) (by omega)
  by_cases qw : 0 ≤ w ∧ w ≤ 4
  · have w0 := qw.1
    have w1 := qw.2
    have w2 : ¬ w < 0 := by omega
    have w3 : ¬ 4 < w := by omega
    have h := call_runP 4 vm_X12_heap h
    have h := xw_top (hd := []) 10 xD6_ok xc_X12_heap xa_X12_heap (t := 0) rfl h
    simp (maxDischargeDepth := 12) -implicitDefEqProofs [vb_X12_heap_0, vb_X12_heap_11, vb_X12_heap_31, vb_X12_heap_49, vb_X12_heap_63, vb_X12_heap_77, vb_X12_heap_91, vb_X12_heap_97, xI_0, xI_1, xI_3, xI_7, xI_8, xI_14, xI_15, xI_36, xI_38, xI_44, xI_49, xI_51, xI_60, xI_61, xI_62, xw_X12_heap_0, xw_X12_heap_11, xw_X12_heap_31, xw_X12_heap_49, xw_X12_heap_63, xw_X12_heap_77, xw_X12_heap_91, xw_X12_heap_97, zw_lit, xB_c, xB_s, xB_n, i1_c, j2_c, k1_c, jJ_e, xlg, xls, xla, xpd, ppush, zw_m1, zw_m2, zw_m3, gf_12_21, gf_12_23, gf_12_24, gf_12_25, gf_12_26, gf_12_27, tg_12_21, tg_12_23, tg_12_24, tg_12_25, tg_12_26, tg_12_27, gv_590_21, gv_590_23, gv_590_24, gv_590_25, gv_590_26, gv_590_27, xD1, xD2, xD3, xD4, xD5, xD6, xb1_0, w0, w1, w2, w3] at h
    obtain ⟨r, H1, ⟨rfl, ⟨l1, t1, t2, t3, t4, t5, t6⟩, sc⟩, g⟩ := xc_use h (sp_X12_layMatched H ok.1 ok.2.1 os.2.1)
    have t26 : H1 590 26 = (tlZ (H 591)).1 := l1.1.1
    have b60 := l1.2.1
    have zt : zw ((tlZ (H 591)).1 - 1) = (tlZ (H 591)).1 - 1 := zw_lit (by omega) (by omega)
    by_cases qu : 0 ≤ u ∧ u ≤ (tlZ (H 591)).1 - 1
    · have u0 := qu.1
      have u1 := qu.2
      have u2 : ¬ u < 0 := by omega
      have u3 : ¬ (tlZ (H 591)).1 - 1 < u := by omega
      have hq : 0 ≤ u ∧ u < (tlZ (H 591)).1 := by omega
      have zu : zw (12 + u) = 12 + u := zw_lit (by omega) (by omega)
      have f0 : H1 601 u = (tlZ (H 591)).2.1 u := l1.1.2.1 u u0 hq.2
      have f1 : H1 603 (12 + u) = (tlZ (H 591)).2.2.1 (12 + u) := l1.1.2.2.1 _ (by omega) (by omega)
      have f2 : H1 604 (12 + u) = (tlZ (H 591)).2.2.2 (12 + u) := l1.1.2.2.2 _ (by omega) (by omega)
      have f3 : H1 605 (12 + u) = agdA (H 591) (12 + u) := l1.2.2.2 _ (by omega) (by omega)
      have f4 : H1 606 (12 + u) = (mtZ (H 591)).1 (12 + u) := t1 _ (by omega) (by omega)
      by_cases c : w = 0
      · have e := f0
        simp (maxDischargeDepth := 12) -implicitDefEqProofs [vb_X12_heap_0, vb_X12_heap_11, vb_X12_heap_31, vb_X12_heap_49, vb_X12_heap_63, vb_X12_heap_77, vb_X12_heap_91, vb_X12_heap_97, xI_0, xI_1, xI_3, xI_7, xI_8, xI_14, xI_15, xI_36, xI_38, xI_44, xI_49, xI_51, xI_60, xI_61, xI_62, xw_X12_heap_0, xw_X12_heap_11, xw_X12_heap_31, xw_X12_heap_49, xw_X12_heap_63, xw_X12_heap_77, xw_X12_heap_91, xw_X12_heap_97, zw_lit, xB_c, xB_s, xB_n, i1_c, j2_c, k1_c, jJ_e, xlg, xls, xla, xpd, ppush, zw_m1, zw_m2, zw_m3, gf_12_21, gf_12_23, gf_12_24, gf_12_25, gf_12_26, gf_12_27, tg_12_21, tg_12_23, tg_12_24, tg_12_25, tg_12_26, tg_12_27, gv_590_21, gv_590_23, gv_590_24, gv_590_25, gv_590_26, gv_590_27, xD1, xD2, xD3, xD4, xD5, xD6, xb1_0, u0, u1, u2, u3, t26, zt, zu, c, e] at g
        exact ⟨_, H1, g, by rw [c]; unfold hpQ; rw [if_pos ⟨hq, by decide⟩]; rfl, MQs_SCa sc⟩
      by_cases c : w = 1
      · have e := f1
        simp (maxDischargeDepth := 12) -implicitDefEqProofs [vb_X12_heap_0, vb_X12_heap_11, vb_X12_heap_31, vb_X12_heap_49, vb_X12_heap_63, vb_X12_heap_77, vb_X12_heap_91, vb_X12_heap_97, xI_0, xI_1, xI_3, xI_7, xI_8, xI_14, xI_15, xI_36, xI_38, xI_44, xI_49, xI_51, xI_60, xI_61, xI_62, xw_X12_heap_0, xw_X12_heap_11, xw_X12_heap_31, xw_X12_heap_49, xw_X12_heap_63, xw_X12_heap_77, xw_X12_heap_91, xw_X12_heap_97, zw_lit, xB_c, xB_s, xB_n, i1_c, j2_c, k1_c, jJ_e, xlg, xls, xla, xpd, ppush, zw_m1, zw_m2, zw_m3, gf_12_21, gf_12_23, gf_12_24, gf_12_25, gf_12_26, gf_12_27, tg_12_21, tg_12_23, tg_12_24, tg_12_25, tg_12_26, tg_12_27, gv_590_21, gv_590_23, gv_590_24, gv_590_25, gv_590_26, gv_590_27, xD1, xD2, xD3, xD4, xD5, xD6, xb1_0, u0, u1, u2, u3, t26, zt, zu, c, e] at g
        exact ⟨_, H1, g, by rw [c]; unfold hpQ; rw [if_pos ⟨hq, by decide⟩]; rfl, MQs_SCa sc⟩
      by_cases c : w = 2
      · have e := f2
        simp (maxDischargeDepth := 12) -implicitDefEqProofs [vb_X12_heap_0, vb_X12_heap_11, vb_X12_heap_31, vb_X12_heap_49, vb_X12_heap_63, vb_X12_heap_77, vb_X12_heap_91, vb_X12_heap_97, xI_0, xI_1, xI_3, xI_7, xI_8, xI_14, xI_15, xI_36, xI_38, xI_44, xI_49, xI_51, xI_60, xI_61, xI_62, xw_X12_heap_0, xw_X12_heap_11, xw_X12_heap_31, xw_X12_heap_49, xw_X12_heap_63, xw_X12_heap_77, xw_X12_heap_91, xw_X12_heap_97, zw_lit, xB_c, xB_s, xB_n, i1_c, j2_c, k1_c, jJ_e, xlg, xls, xla, xpd, ppush, zw_m1, zw_m2, zw_m3, gf_12_21, gf_12_23, gf_12_24, gf_12_25, gf_12_26, gf_12_27, tg_12_21, tg_12_23, tg_12_24, tg_12_25, tg_12_26, tg_12_27, gv_590_21, gv_590_23, gv_590_24, gv_590_25, gv_590_26, gv_590_27, xD1, xD2, xD3, xD4, xD5, xD6, xb1_0, u0, u1, u2, u3, t26, zt, zu, c, e] at g
        exact ⟨_, H1, g, by rw [c]; unfold hpQ; rw [if_pos ⟨hq, by decide⟩]; rfl, MQs_SCa sc⟩
      by_cases c : w = 3
      · have e := f3
        simp (maxDischargeDepth := 12) -implicitDefEqProofs [vb_X12_heap_0, vb_X12_heap_11, vb_X12_heap_31, vb_X12_heap_49, vb_X12_heap_63, vb_X12_heap_77, vb_X12_heap_91, vb_X12_heap_97, xI_0, xI_1, xI_3, xI_7, xI_8, xI_14, xI_15, xI_36, xI_38, xI_44, xI_49, xI_51, xI_60, xI_61, xI_62, xw_X12_heap_0, xw_X12_heap_11, xw_X12_heap_31, xw_X12_heap_49, xw_X12_heap_63, xw_X12_heap_77, xw_X12_heap_91, xw_X12_heap_97, zw_lit, xB_c, xB_s, xB_n, i1_c, j2_c, k1_c, jJ_e, xlg, xls, xla, xpd, ppush, zw_m1, zw_m2, zw_m3, gf_12_21, gf_12_23, gf_12_24, gf_12_25, gf_12_26, gf_12_27, tg_12_21, tg_12_23, tg_12_24, tg_12_25, tg_12_26, tg_12_27, gv_590_21, gv_590_23, gv_590_24, gv_590_25, gv_590_26, gv_590_27, xD1, xD2, xD3, xD4, xD5, xD6, xb1_0, u0, u1, u2, u3, t26, zt, zu, c, e] at g
        exact ⟨_, H1, g, by rw [c]; unfold hpQ; rw [if_pos ⟨hq, by decide⟩]; rfl, MQs_SCa sc⟩
      by_cases c : w = 4
      · have e := f4
        simp (maxDischargeDepth := 12) -implicitDefEqProofs [vb_X12_heap_0, vb_X12_heap_11, vb_X12_heap_31, vb_X12_heap_49, vb_X12_heap_63, vb_X12_heap_77, vb_X12_heap_91, vb_X12_heap_97, xI_0, xI_1, xI_3, xI_7, xI_8, xI_14, xI_15, xI_36, xI_38, xI_44, xI_49, xI_51, xI_60, xI_61, xI_62, xw_X12_heap_0, xw_X12_heap_11, xw_X12_heap_31, xw_X12_heap_49, xw_X12_heap_63, xw_X12_heap_77, xw_X12_heap_91, xw_X12_heap_97, zw_lit, xB_c, xB_s, xB_n, i1_c, j2_c, k1_c, jJ_e, xlg, xls, xla, xpd, ppush, zw_m1, zw_m2, zw_m3, gf_12_21, gf_12_23, gf_12_24, gf_12_25, gf_12_26, gf_12_27, tg_12_21, tg_12_23, tg_12_24, tg_12_25, tg_12_26, tg_12_27, gv_590_21, gv_590_23, gv_590_24, gv_590_25, gv_590_26, gv_590_27, xD1, xD2, xD3, xD4, xD5, xD6, xb1_0, u0, u1, u2, u3, t26, zt, zu, c, e] at g
        exact ⟨_, H1, g, by rw [c]; unfold hpQ; rw [if_pos ⟨hq, by decide⟩]; rfl, MQs_SCa sc⟩
      omega
    · by_cases u0 : 0 ≤ u
      · have u1 : ¬ u ≤ (tlZ (H 591)).1 - 1 := by omega
        have u2 : ¬ u < 0 := by omega
        have u3 : (tlZ (H 591)).1 - 1 < u := by omega
        simp (maxDischargeDepth := 12) -implicitDefEqProofs [vb_X12_heap_0, vb_X12_heap_11, vb_X12_heap_31, vb_X12_heap_49, vb_X12_heap_63, vb_X12_heap_77, vb_X12_heap_91, vb_X12_heap_97, xI_0, xI_1, xI_3, xI_7, xI_8, xI_14, xI_15, xI_36, xI_38, xI_44, xI_49, xI_51, xI_60, xI_61, xI_62, xw_X12_heap_0, xw_X12_heap_11, xw_X12_heap_31, xw_X12_heap_49, xw_X12_heap_63, xw_X12_heap_77, xw_X12_heap_91, xw_X12_heap_97, zw_lit, xB_c, xB_s, xB_n, i1_c, j2_c, k1_c, jJ_e, xlg, xls, xla, xpd, ppush, zw_m1, zw_m2, zw_m3, gf_12_21, gf_12_23, gf_12_24, gf_12_25, gf_12_26, gf_12_27, tg_12_21, tg_12_23, tg_12_24, tg_12_25, tg_12_26, tg_12_27, gv_590_21, gv_590_23, gv_590_24, gv_590_25, gv_590_26, gv_590_27, xD1, xD2, xD3, xD4, xD5, xD6, xb1_0, t26, zt, u0, u1, u2, u3] at g
        exact ⟨_, H1, g, by unfold hpQ; rw [if_neg (by omega)], MQs_SCa sc⟩
      · have u2 : u < 0 := by omega
        simp (maxDischargeDepth := 12) -implicitDefEqProofs [vb_X12_heap_0, vb_X12_heap_11, vb_X12_heap_31, vb_X12_heap_49, vb_X12_heap_63, vb_X12_heap_77, vb_X12_heap_91, vb_X12_heap_97, xI_0, xI_1, xI_3, xI_7, xI_8, xI_14, xI_15, xI_36, xI_38, xI_44, xI_49, xI_51, xI_60, xI_61, xI_62, xw_X12_heap_0, xw_X12_heap_11, xw_X12_heap_31, xw_X12_heap_49, xw_X12_heap_63, xw_X12_heap_77, xw_X12_heap_91, xw_X12_heap_97, zw_lit, xB_c, xB_s, xB_n, i1_c, j2_c, k1_c, jJ_e, xlg, xls, xla, xpd, ppush, zw_m1, zw_m2, zw_m3, gf_12_21, gf_12_23, gf_12_24, gf_12_25, gf_12_26, gf_12_27, tg_12_21, tg_12_23, tg_12_24, tg_12_25, tg_12_26, tg_12_27, gv_590_21, gv_590_23, gv_590_24, gv_590_25, gv_590_26, gv_590_27, xD1, xD2, xD3, xD4, xD5, xD6, xb1_0, t26, zt, u0, u2] at g
        exact ⟨_, H1, g, by unfold hpQ; rw [if_neg (by omega)], MQs_SCa sc⟩
  · by_cases w0 : 0 ≤ w
    · have w1 : ¬ w ≤ 4 := by omega
      have w2 : ¬ w < 0 := by omega
      have w3 : 4 < w := by omega
      have h := call_runP 4 vm_X12_heap h
      have h := xw_top (hd := []) 10 xD6_ok xc_X12_heap xa_X12_heap (t := 0) rfl h
      simp (maxDischargeDepth := 12) -implicitDefEqProofs [vb_X12_heap_0, vb_X12_heap_11, vb_X12_heap_31, vb_X12_heap_49, vb_X12_heap_63, vb_X12_heap_77, vb_X12_heap_91, vb_X12_heap_97, xI_0, xI_1, xI_3, xI_7, xI_8, xI_14, xI_15, xI_36, xI_38, xI_44, xI_49, xI_51, xI_60, xI_61, xI_62, xw_X12_heap_0, xw_X12_heap_11, xw_X12_heap_31, xw_X12_heap_49, xw_X12_heap_63, xw_X12_heap_77, xw_X12_heap_91, xw_X12_heap_97, zw_lit, xB_c, xB_s, xB_n, i1_c, j2_c, k1_c, jJ_e, xlg, xls, xla, xpd, ppush, zw_m1, zw_m2, zw_m3, gf_12_21, gf_12_23, gf_12_24, gf_12_25, gf_12_26, gf_12_27, tg_12_21, tg_12_23, tg_12_24, tg_12_25, tg_12_26, tg_12_27, gv_590_21, gv_590_23, gv_590_24, gv_590_25, gv_590_26, gv_590_27, xD1, xD2, xD3, xD4, xD5, xD6, xb1_0, w0, w1, w2, w3] at h
      exact ⟨_, H, h, by unfold hpQ; rw [if_neg (by omega)], MQs_refl⟩
    · have w2 : w < 0 := by omega
      have h := call_runP 4 vm_X12_heap h
      have h := xw_top (hd := []) 10 xD6_ok xc_X12_heap xa_X12_heap (t := 0) rfl h
      simp (maxDischargeDepth := 12) -implicitDefEqProofs [vb_X12_heap_0, vb_X12_heap_11, vb_X12_heap_31, vb_X12_heap_49, vb_X12_heap_63, vb_X12_heap_77, vb_X12_heap_91, vb_X12_heap_97, xI_0, xI_1, xI_3, xI_7, xI_8, xI_14, xI_15, xI_36, xI_38, xI_44, xI_49, xI_51, xI_60, xI_61, xI_62, xw_X12_heap_0, xw_X12_heap_11, xw_X12_heap_31, xw_X12_heap_49, xw_X12_heap_63, xw_X12_heap_77, xw_X12_heap_91, xw_X12_heap_97, zw_lit, xB_c, xB_s, xB_n, i1_c, j2_c, k1_c, jJ_e, xlg, xls, xla, xpd, ppush, zw_m1, zw_m2, zw_m3, gf_12_21, gf_12_23, gf_12_24, gf_12_25, gf_12_26, gf_12_27, tg_12_21, tg_12_23, tg_12_24, tg_12_25, tg_12_26, tg_12_27, gv_590_21, gv_590_23, gv_590_24, gv_590_25, gv_590_26, gv_590_27, xD1, xD2, xD3, xD4, xD5, xD6, xb1_0, w0, w2] at h
      exact ⟨_, H, h, by unfold hpQ; rw [if_neg (by omega)], MQs_refl⟩
set_option maxRecDepth 100000 in
theorem sp_m_tally (b w : Int) (H : PH) (ok : OKR (H 591)) : SPEC 218 [(2, 590), (0, b), (0, w)] H (fun r H' => r = some (0, tyQ (H 591) b w) ∧ MQs H H') := by
  intro E n' res h
  have a0 := ok.1.1
  have a2 := ok.1.2.2.1
  have os := ok.2.2.1
  unfold OKS at os
  have z0 : zw (H 591 0 - 1) = H 591 0 - 1 := zw_lit (by omega) (by omega)
  have z2 : zw (H 591 2 - 1) = H 591 2 - 1 := zw_lit (by omega) (by omega)
  by_cases qb : 0 ≤ b ∧ b ≤ H 591 0 - 1
  · have b0 := qb.1
    have b1 := qb.2
    have b2 : ¬ b < 0 := by omega
    have b3 : ¬ H 591 0 - 1 < b := by omega
    by_cases qw : 0 ≤ w ∧ w ≤ 8
    · have w0 := qw.1
      have w1 := qw.2
      have w2 : ¬ w < 0 := by omega
      have w3 : ¬ 8 < w := by omega
      have h := call_runP 3 vm_X12_tally h
      have h := xw_top (hd := []) 14 xD6_ok xc_X12_tally xa_X12_tally (t := 0) rfl h
      simp (maxDischargeDepth := 12) -implicitDefEqProofs [vb_X12_tally_0, vb_X12_tally_18, vb_X12_tally_20, vb_X12_tally_72, vb_X12_tally_79, vb_X12_tally_86, vb_X12_tally_93, vb_X12_tally_99, vb_X12_tally_116, vb_X12_tally_133, vb_X12_tally_140, vb_X12_tally_147, xI_0, xI_1, xI_7, xI_8, xI_15, xI_37, xI_38, xI_49, xI_51, xI_60, xI_61, xI_62, xI_113, xw_X12_tally_0, xw_X12_tally_18, xw_X12_tally_20, xw_X12_tally_72, xw_X12_tally_79, xw_X12_tally_86, xw_X12_tally_93, xw_X12_tally_99, xw_X12_tally_116, xw_X12_tally_133, xw_X12_tally_140, xw_X12_tally_147, zw_lit, xB_c, xB_s, xB_n, i1_c, j2_c, k1_c, jJ_e, xlg, xls, xla, xpd, ppush, zw_m1, zw_m2, zw_m3, gf_12_23, gf_12_24, gf_12_25, gf_12_27, gf_12_28, tg_12_23, tg_12_24, tg_12_25, tg_12_27, tg_12_28, gv_590_23, gv_590_24, gv_590_25, gv_590_27, gv_590_28, xD1, xD2, xD3, xD4, xD5, xD6, xb1_0, z0, b0, b1, b2, b3, w0, w1, w2, w3] at h
      obtain ⟨r, H1, ⟨rfl, ⟨l1, t1, t2, t3, t4, t5, t6⟩, sc⟩, g⟩ := xc_use h (sp_X12_layMatched H ok.1 ok.2.1 os.2.1)
      have eA : H1 591 = H 591 := sc.1 591 (by decide) (by decide)
      have b60 := l1.2.1
      have hq : 0 ≤ b ∧ b < H 591 0 := by omega
      have hb : 0 ≤ b ∧ b < 12 := by omega
      have hB := ok.1
      have f0 : H1 603 b = (tlZ (H 591)).2.2.1 b := l1.1.2.2.1 _ (by omega) (by omega)
      have f1 : H1 604 b = (tlZ (H 591)).2.2.2 b := l1.1.2.2.2 _ (by omega) (by omega)
      have f2 : H1 605 b = agdA (H 591) b := l1.2.2.2 _ (by omega) (by omega)
      have f6 : H1 607 b = (mtZ (H 591)).2.1 b := t2 _ (by omega) (by omega)
      have f7 : H1 606 b = (mtZ (H 591)).1 b := t1 _ (by omega) (by omega)
      by_cases c : w = 0
      · have e := f0
        have sw := sw_X12_tally_0
        simp (maxDischargeDepth := 12) -implicitDefEqProofs [vb_X12_tally_0, vb_X12_tally_18, vb_X12_tally_20, vb_X12_tally_72, vb_X12_tally_79, vb_X12_tally_86, vb_X12_tally_93, vb_X12_tally_99, vb_X12_tally_116, vb_X12_tally_133, vb_X12_tally_140, vb_X12_tally_147, xI_0, xI_1, xI_7, xI_8, xI_15, xI_37, xI_38, xI_49, xI_51, xI_60, xI_61, xI_62, xI_113, xw_X12_tally_0, xw_X12_tally_18, xw_X12_tally_20, xw_X12_tally_72, xw_X12_tally_79, xw_X12_tally_86, xw_X12_tally_93, xw_X12_tally_99, xw_X12_tally_116, xw_X12_tally_133, xw_X12_tally_140, xw_X12_tally_147, zw_lit, xB_c, xB_s, xB_n, i1_c, j2_c, k1_c, jJ_e, xlg, xls, xla, xpd, ppush, zw_m1, zw_m2, zw_m3, gf_12_23, gf_12_24, gf_12_25, gf_12_27, gf_12_28, tg_12_23, tg_12_24, tg_12_25, tg_12_27, tg_12_28, gv_590_23, gv_590_24, gv_590_25, gv_590_27, gv_590_28, xD1, xD2, xD3, xD4, xD5, xD6, xb1_0, c, sw, e] at g
        exact ⟨_, H1, g, by rw [c]; unfold tyQ; rw [if_pos ⟨hq, by decide⟩]; rfl, MQs_SCa sc⟩
      by_cases c : w = 1
      · have e := f1
        have sw := sw_X12_tally_1
        simp (maxDischargeDepth := 12) -implicitDefEqProofs [vb_X12_tally_0, vb_X12_tally_18, vb_X12_tally_20, vb_X12_tally_72, vb_X12_tally_79, vb_X12_tally_86, vb_X12_tally_93, vb_X12_tally_99, vb_X12_tally_116, vb_X12_tally_133, vb_X12_tally_140, vb_X12_tally_147, xI_0, xI_1, xI_7, xI_8, xI_15, xI_37, xI_38, xI_49, xI_51, xI_60, xI_61, xI_62, xI_113, xw_X12_tally_0, xw_X12_tally_18, xw_X12_tally_20, xw_X12_tally_72, xw_X12_tally_79, xw_X12_tally_86, xw_X12_tally_93, xw_X12_tally_99, xw_X12_tally_116, xw_X12_tally_133, xw_X12_tally_140, xw_X12_tally_147, zw_lit, xB_c, xB_s, xB_n, i1_c, j2_c, k1_c, jJ_e, xlg, xls, xla, xpd, ppush, zw_m1, zw_m2, zw_m3, gf_12_23, gf_12_24, gf_12_25, gf_12_27, gf_12_28, tg_12_23, tg_12_24, tg_12_25, tg_12_27, tg_12_28, gv_590_23, gv_590_24, gv_590_25, gv_590_27, gv_590_28, xD1, xD2, xD3, xD4, xD5, xD6, xb1_0, c, sw, e] at g
        exact ⟨_, H1, g, by rw [c]; unfold tyQ; rw [if_pos ⟨hq, by decide⟩]; rfl, MQs_SCa sc⟩
      by_cases c : w = 2
      · have e := f2
        have sw := sw_X12_tally_2
        simp (maxDischargeDepth := 12) -implicitDefEqProofs [vb_X12_tally_0, vb_X12_tally_18, vb_X12_tally_20, vb_X12_tally_72, vb_X12_tally_79, vb_X12_tally_86, vb_X12_tally_93, vb_X12_tally_99, vb_X12_tally_116, vb_X12_tally_133, vb_X12_tally_140, vb_X12_tally_147, xI_0, xI_1, xI_7, xI_8, xI_15, xI_37, xI_38, xI_49, xI_51, xI_60, xI_61, xI_62, xI_113, xw_X12_tally_0, xw_X12_tally_18, xw_X12_tally_20, xw_X12_tally_72, xw_X12_tally_79, xw_X12_tally_86, xw_X12_tally_93, xw_X12_tally_99, xw_X12_tally_116, xw_X12_tally_133, xw_X12_tally_140, xw_X12_tally_147, zw_lit, xB_c, xB_s, xB_n, i1_c, j2_c, k1_c, jJ_e, xlg, xls, xla, xpd, ppush, zw_m1, zw_m2, zw_m3, gf_12_23, gf_12_24, gf_12_25, gf_12_27, gf_12_28, tg_12_23, tg_12_24, tg_12_25, tg_12_27, tg_12_28, gv_590_23, gv_590_24, gv_590_25, gv_590_27, gv_590_28, xD1, xD2, xD3, xD4, xD5, xD6, xb1_0, c, sw, e] at g
        exact ⟨_, H1, g, by rw [c]; unfold tyQ; rw [if_pos ⟨hq, by decide⟩]; rfl, MQs_SCa sc⟩
      by_cases c : w = 6
      · have e := f6
        have sw := sw_X12_tally_6
        simp (maxDischargeDepth := 12) -implicitDefEqProofs [vb_X12_tally_0, vb_X12_tally_18, vb_X12_tally_20, vb_X12_tally_72, vb_X12_tally_79, vb_X12_tally_86, vb_X12_tally_93, vb_X12_tally_99, vb_X12_tally_116, vb_X12_tally_133, vb_X12_tally_140, vb_X12_tally_147, xI_0, xI_1, xI_7, xI_8, xI_15, xI_37, xI_38, xI_49, xI_51, xI_60, xI_61, xI_62, xI_113, xw_X12_tally_0, xw_X12_tally_18, xw_X12_tally_20, xw_X12_tally_72, xw_X12_tally_79, xw_X12_tally_86, xw_X12_tally_93, xw_X12_tally_99, xw_X12_tally_116, xw_X12_tally_133, xw_X12_tally_140, xw_X12_tally_147, zw_lit, xB_c, xB_s, xB_n, i1_c, j2_c, k1_c, jJ_e, xlg, xls, xla, xpd, ppush, zw_m1, zw_m2, zw_m3, gf_12_23, gf_12_24, gf_12_25, gf_12_27, gf_12_28, tg_12_23, tg_12_24, tg_12_25, tg_12_27, tg_12_28, gv_590_23, gv_590_24, gv_590_25, gv_590_27, gv_590_28, xD1, xD2, xD3, xD4, xD5, xD6, xb1_0, c, sw, e] at g
        exact ⟨_, H1, g, by rw [c]; unfold tyQ; rw [if_pos ⟨hq, by decide⟩]; rfl, MQs_SCa sc⟩
      by_cases c : w = 7
      · have e := f7
        have sw := sw_X12_tally_7
        simp (maxDischargeDepth := 12) -implicitDefEqProofs [vb_X12_tally_0, vb_X12_tally_18, vb_X12_tally_20, vb_X12_tally_72, vb_X12_tally_79, vb_X12_tally_86, vb_X12_tally_93, vb_X12_tally_99, vb_X12_tally_116, vb_X12_tally_133, vb_X12_tally_140, vb_X12_tally_147, xI_0, xI_1, xI_7, xI_8, xI_15, xI_37, xI_38, xI_49, xI_51, xI_60, xI_61, xI_62, xI_113, xw_X12_tally_0, xw_X12_tally_18, xw_X12_tally_20, xw_X12_tally_72, xw_X12_tally_79, xw_X12_tally_86, xw_X12_tally_93, xw_X12_tally_99, xw_X12_tally_116, xw_X12_tally_133, xw_X12_tally_140, xw_X12_tally_147, zw_lit, xB_c, xB_s, xB_n, i1_c, j2_c, k1_c, jJ_e, xlg, xls, xla, xpd, ppush, zw_m1, zw_m2, zw_m3, gf_12_23, gf_12_24, gf_12_25, gf_12_27, gf_12_28, tg_12_23, tg_12_24, tg_12_25, tg_12_27, tg_12_28, gv_590_23, gv_590_24, gv_590_25, gv_590_27, gv_590_28, xD1, xD2, xD3, xD4, xD5, xD6, xb1_0, c, sw, e] at g
        exact ⟨_, H1, g, by rw [c]; unfold tyQ; rw [if_pos ⟨hq, by decide⟩]; rfl, MQs_SCa sc⟩
      by_cases c : w = 3
      · have sw := sw_X12_tally_3
        simp (maxDischargeDepth := 12) -implicitDefEqProofs [vb_X12_tally_0, vb_X12_tally_18, vb_X12_tally_20, vb_X12_tally_72, vb_X12_tally_79, vb_X12_tally_86, vb_X12_tally_93, vb_X12_tally_99, vb_X12_tally_116, vb_X12_tally_133, vb_X12_tally_140, vb_X12_tally_147, xI_0, xI_1, xI_7, xI_8, xI_15, xI_37, xI_38, xI_49, xI_51, xI_60, xI_61, xI_62, xI_113, xw_X12_tally_0, xw_X12_tally_18, xw_X12_tally_20, xw_X12_tally_72, xw_X12_tally_79, xw_X12_tally_86, xw_X12_tally_93, xw_X12_tally_99, xw_X12_tally_116, xw_X12_tally_133, xw_X12_tally_140, xw_X12_tally_147, zw_lit, xB_c, xB_s, xB_n, i1_c, j2_c, k1_c, jJ_e, xlg, xls, xla, xpd, ppush, zw_m1, zw_m2, zw_m3, gf_12_23, gf_12_24, gf_12_25, gf_12_27, gf_12_28, tg_12_23, tg_12_24, tg_12_25, tg_12_27, tg_12_28, gv_590_23, gv_590_24, gv_590_25, gv_590_27, gv_590_28, xD1, xD2, xD3, xD4, xD5, xD6, xb1_0, c, sw, eA, hb, hB] at g
        exact ⟨_, H1, g, by rw [c]; unfold tyQ; rw [if_pos ⟨hq, by decide⟩]; rfl, MQs_SCa sc⟩
      by_cases c : w = 4
      · have sw := sw_X12_tally_4
        simp (maxDischargeDepth := 12) -implicitDefEqProofs [vb_X12_tally_0, vb_X12_tally_18, vb_X12_tally_20, vb_X12_tally_72, vb_X12_tally_79, vb_X12_tally_86, vb_X12_tally_93, vb_X12_tally_99, vb_X12_tally_116, vb_X12_tally_133, vb_X12_tally_140, vb_X12_tally_147, xI_0, xI_1, xI_7, xI_8, xI_15, xI_37, xI_38, xI_49, xI_51, xI_60, xI_61, xI_62, xI_113, xw_X12_tally_0, xw_X12_tally_18, xw_X12_tally_20, xw_X12_tally_72, xw_X12_tally_79, xw_X12_tally_86, xw_X12_tally_93, xw_X12_tally_99, xw_X12_tally_116, xw_X12_tally_133, xw_X12_tally_140, xw_X12_tally_147, zw_lit, xB_c, xB_s, xB_n, i1_c, j2_c, k1_c, jJ_e, xlg, xls, xla, xpd, ppush, zw_m1, zw_m2, zw_m3, gf_12_23, gf_12_24, gf_12_25, gf_12_27, gf_12_28, tg_12_23, tg_12_24, tg_12_25, tg_12_27, tg_12_28, gv_590_23, gv_590_24, gv_590_25, gv_590_27, gv_590_28, xD1, xD2, xD3, xD4, xD5, xD6, xb1_0, c, sw, eA, hb, hB, f2] at g
        exact ⟨_, H1, g, by rw [c]; unfold tyQ wntA; rw [if_pos ⟨hq, by decide⟩, if_neg (by decide), if_neg (by decide), if_neg (by decide), if_neg (by decide), if_pos rfl, if_pos hq.2], MQs_SCa sc⟩
      by_cases c : w = 5
      · have sw := sw_X12_tally_5
        simp (maxDischargeDepth := 12) -implicitDefEqProofs [vb_X12_tally_0, vb_X12_tally_18, vb_X12_tally_20, vb_X12_tally_72, vb_X12_tally_79, vb_X12_tally_86, vb_X12_tally_93, vb_X12_tally_99, vb_X12_tally_116, vb_X12_tally_133, vb_X12_tally_140, vb_X12_tally_147, xI_0, xI_1, xI_7, xI_8, xI_15, xI_37, xI_38, xI_49, xI_51, xI_60, xI_61, xI_62, xI_113, xw_X12_tally_0, xw_X12_tally_18, xw_X12_tally_20, xw_X12_tally_72, xw_X12_tally_79, xw_X12_tally_86, xw_X12_tally_93, xw_X12_tally_99, xw_X12_tally_116, xw_X12_tally_133, xw_X12_tally_140, xw_X12_tally_147, zw_lit, xB_c, xB_s, xB_n, i1_c, j2_c, k1_c, jJ_e, xlg, xls, xla, xpd, ppush, zw_m1, zw_m2, zw_m3, gf_12_23, gf_12_24, gf_12_25, gf_12_27, gf_12_28, tg_12_23, tg_12_24, tg_12_25, tg_12_27, tg_12_28, gv_590_23, gv_590_24, gv_590_25, gv_590_27, gv_590_28, xD1, xD2, xD3, xD4, xD5, xD6, xb1_0, c, sw, eA, hb, hB, f2] at g
        exact ⟨_, H1, g, by rw [c]; unfold tyQ offA; rw [if_pos ⟨hq, by decide⟩, if_neg (by decide), if_neg (by decide), if_neg (by decide), if_neg (by decide), if_neg (by decide), if_pos rfl, if_pos hb.2, if_pos hq.2], MQs_SCa sc⟩
      have c : w = 8 := by omega
      have sw := sw_X12_tally_d (x := 8) (by decide)
      simp (maxDischargeDepth := 12) -implicitDefEqProofs [vb_X12_tally_0, vb_X12_tally_18, vb_X12_tally_20, vb_X12_tally_72, vb_X12_tally_79, vb_X12_tally_86, vb_X12_tally_93, vb_X12_tally_99, vb_X12_tally_116, vb_X12_tally_133, vb_X12_tally_140, vb_X12_tally_147, xI_0, xI_1, xI_7, xI_8, xI_15, xI_37, xI_38, xI_49, xI_51, xI_60, xI_61, xI_62, xI_113, xw_X12_tally_0, xw_X12_tally_18, xw_X12_tally_20, xw_X12_tally_72, xw_X12_tally_79, xw_X12_tally_86, xw_X12_tally_93, xw_X12_tally_99, xw_X12_tally_116, xw_X12_tally_133, xw_X12_tally_140, xw_X12_tally_147, zw_lit, xB_c, xB_s, xB_n, i1_c, j2_c, k1_c, jJ_e, xlg, xls, xla, xpd, ppush, zw_m1, zw_m2, zw_m3, gf_12_23, gf_12_24, gf_12_25, gf_12_27, gf_12_28, tg_12_23, tg_12_24, tg_12_25, tg_12_27, tg_12_28, gv_590_23, gv_590_24, gv_590_25, gv_590_27, gv_590_28, xD1, xD2, xD3, xD4, xD5, xD6, xb1_0, c, sw] at g
      obtain ⟨r, H2, ⟨rfl, rfl⟩, g2⟩ := xc_use g (sp_X12_matchedTo b (mtZ (H 591)).2.2.1 hb H1 t3)
      exact ⟨_, _, g2, by rw [c]; unfold tyQ; rw [if_pos ⟨hq, by decide⟩]; rfl, MQs_SCa sc⟩
    · by_cases w0 : 0 ≤ w
      · have w1 : ¬ w ≤ 8 := by omega
        have w2 : ¬ w < 0 := by omega
        have w3 : 8 < w := by omega
        have h := call_runP 3 vm_X12_tally h
        have h := xw_top (hd := []) 14 xD6_ok xc_X12_tally xa_X12_tally (t := 0) rfl h
        simp (maxDischargeDepth := 12) -implicitDefEqProofs [vb_X12_tally_0, vb_X12_tally_18, vb_X12_tally_20, vb_X12_tally_72, vb_X12_tally_79, vb_X12_tally_86, vb_X12_tally_93, vb_X12_tally_99, vb_X12_tally_116, vb_X12_tally_133, vb_X12_tally_140, vb_X12_tally_147, xI_0, xI_1, xI_7, xI_8, xI_15, xI_37, xI_38, xI_49, xI_51, xI_60, xI_61, xI_62, xI_113, xw_X12_tally_0, xw_X12_tally_18, xw_X12_tally_20, xw_X12_tally_72, xw_X12_tally_79, xw_X12_tally_86, xw_X12_tally_93, xw_X12_tally_99, xw_X12_tally_116, xw_X12_tally_133, xw_X12_tally_140, xw_X12_tally_147, zw_lit, xB_c, xB_s, xB_n, i1_c, j2_c, k1_c, jJ_e, xlg, xls, xla, xpd, ppush, zw_m1, zw_m2, zw_m3, gf_12_23, gf_12_24, gf_12_25, gf_12_27, gf_12_28, tg_12_23, tg_12_24, tg_12_25, tg_12_27, tg_12_28, gv_590_23, gv_590_24, gv_590_25, gv_590_27, gv_590_28, xD1, xD2, xD3, xD4, xD5, xD6, xb1_0, z0, b0, b1, b2, b3, w0, w1, w2, w3] at h
        exact ⟨_, H, h, by unfold tyQ; rw [if_neg (by omega)], MQs_refl⟩
      · have w2 : w < 0 := by omega
        have h := call_runP 3 vm_X12_tally h
        have h := xw_top (hd := []) 14 xD6_ok xc_X12_tally xa_X12_tally (t := 0) rfl h
        simp (maxDischargeDepth := 12) -implicitDefEqProofs [vb_X12_tally_0, vb_X12_tally_18, vb_X12_tally_20, vb_X12_tally_72, vb_X12_tally_79, vb_X12_tally_86, vb_X12_tally_93, vb_X12_tally_99, vb_X12_tally_116, vb_X12_tally_133, vb_X12_tally_140, vb_X12_tally_147, xI_0, xI_1, xI_7, xI_8, xI_15, xI_37, xI_38, xI_49, xI_51, xI_60, xI_61, xI_62, xI_113, xw_X12_tally_0, xw_X12_tally_18, xw_X12_tally_20, xw_X12_tally_72, xw_X12_tally_79, xw_X12_tally_86, xw_X12_tally_93, xw_X12_tally_99, xw_X12_tally_116, xw_X12_tally_133, xw_X12_tally_140, xw_X12_tally_147, zw_lit, xB_c, xB_s, xB_n, i1_c, j2_c, k1_c, jJ_e, xlg, xls, xla, xpd, ppush, zw_m1, zw_m2, zw_m3, gf_12_23, gf_12_24, gf_12_25, gf_12_27, gf_12_28, tg_12_23, tg_12_24, tg_12_25, tg_12_27, tg_12_28, gv_590_23, gv_590_24, gv_590_25, gv_590_27, gv_590_28, xD1, xD2, xD3, xD4, xD5, xD6, xb1_0, z0, b0, b1, b2, b3, w0, w2] at h
        exact ⟨_, H, h, by unfold tyQ; rw [if_neg (by omega)], MQs_refl⟩
  · by_cases b0 : 0 ≤ b
    · have b1 : ¬ b ≤ H 591 0 - 1 := by omega
      have b2 : ¬ b < 0 := by omega
      have b3 : H 591 0 - 1 < b := by omega
      have h := call_runP 3 vm_X12_tally h
      have h := xw_top (hd := []) 14 xD6_ok xc_X12_tally xa_X12_tally (t := 0) rfl h
      simp (maxDischargeDepth := 12) -implicitDefEqProofs [vb_X12_tally_0, vb_X12_tally_18, vb_X12_tally_20, vb_X12_tally_72, vb_X12_tally_79, vb_X12_tally_86, vb_X12_tally_93, vb_X12_tally_99, vb_X12_tally_116, vb_X12_tally_133, vb_X12_tally_140, vb_X12_tally_147, xI_0, xI_1, xI_7, xI_8, xI_15, xI_37, xI_38, xI_49, xI_51, xI_60, xI_61, xI_62, xI_113, xw_X12_tally_0, xw_X12_tally_18, xw_X12_tally_20, xw_X12_tally_72, xw_X12_tally_79, xw_X12_tally_86, xw_X12_tally_93, xw_X12_tally_99, xw_X12_tally_116, xw_X12_tally_133, xw_X12_tally_140, xw_X12_tally_147, zw_lit, xB_c, xB_s, xB_n, i1_c, j2_c, k1_c, jJ_e, xlg, xls, xla, xpd, ppush, zw_m1, zw_m2, zw_m3, gf_12_23, gf_12_24, gf_12_25, gf_12_27, gf_12_28, tg_12_23, tg_12_24, tg_12_25, tg_12_27, tg_12_28, gv_590_23, gv_590_24, gv_590_25, gv_590_27, gv_590_28, xD1, xD2, xD3, xD4, xD5, xD6, xb1_0, z0, b0, b1, b2, b3] at h
      exact ⟨_, H, h, by unfold tyQ; rw [if_neg (by omega)], MQs_refl⟩
    · have b2 : b < 0 := by omega
      have h := call_runP 3 vm_X12_tally h
      have h := xw_top (hd := []) 14 xD6_ok xc_X12_tally xa_X12_tally (t := 0) rfl h
      simp (maxDischargeDepth := 12) -implicitDefEqProofs [vb_X12_tally_0, vb_X12_tally_18, vb_X12_tally_20, vb_X12_tally_72, vb_X12_tally_79, vb_X12_tally_86, vb_X12_tally_93, vb_X12_tally_99, vb_X12_tally_116, vb_X12_tally_133, vb_X12_tally_140, vb_X12_tally_147, xI_0, xI_1, xI_7, xI_8, xI_15, xI_37, xI_38, xI_49, xI_51, xI_60, xI_61, xI_62, xI_113, xw_X12_tally_0, xw_X12_tally_18, xw_X12_tally_20, xw_X12_tally_72, xw_X12_tally_79, xw_X12_tally_86, xw_X12_tally_93, xw_X12_tally_99, xw_X12_tally_116, xw_X12_tally_133, xw_X12_tally_140, xw_X12_tally_147, zw_lit, xB_c, xB_s, xB_n, i1_c, j2_c, k1_c, jJ_e, xlg, xls, xla, xpd, ppush, zw_m1, zw_m2, zw_m3, gf_12_23, gf_12_24, gf_12_25, gf_12_27, gf_12_28, tg_12_23, tg_12_24, tg_12_25, tg_12_27, tg_12_28, gv_590_23, gv_590_24, gv_590_25, gv_590_27, gv_590_28, xD1, xD2, xD3, xD4, xD5, xD6, xb1_0, z0, b0, b2] at h
      exact ⟨_, H, h, by unfold tyQ; rw [if_neg (by omega)], MQs_refl⟩
set_option maxRecDepth 100000 in
theorem sp_m_brought (s b : Int) (H : PH) (ok : OKR (H 591)) : SPEC 220 [(2, 590), (0, s), (0, b)] H (fun r H' => r = some (0, brQ (H 591) s b) ∧ MQs H H') := by
  intro E n' res h
  have a0 := ok.1.1
  have a2 := ok.1.2.2.1
  have os := ok.2.2.1
  unfold OKS at os
  have z0 : zw (H 591 0 - 1) = H 591 0 - 1 := zw_lit (by omega) (by omega)
  have z2 : zw (H 591 2 - 1) = H 591 2 - 1 := zw_lit (by omega) (by omega)
  have h := call_runP 3 vm_X12_brought h
  have h := xw_top (hd := []) 5 xD6_ok xc_X12_brought xa_X12_brought (t := 0) rfl h
  simp (maxDischargeDepth := 12) -implicitDefEqProofs [vb_X12_brought_0, vb_X12_brought_44, vb_X12_brought_45, xI_0, xI_1, xI_7, xI_8, xI_14, xI_16, xI_36, xI_37, xI_49, xI_51, xI_60, xI_61, xI_62, xw_X12_brought_0, xw_X12_brought_44, xw_X12_brought_45, zw_lit, xB_c, xB_s, xB_n, i1_c, j2_c, k1_c, jJ_e, xlg, xls, xla, xpd, ppush, zw_m1, zw_m2, zw_m3, gf_12_29, tg_12_29, gv_590_29, xD1, xD2, xD3, xD4, xD5, xD6, xb1_0] at h
  obtain ⟨r, H1, ⟨rfl, ⟨l1, t1, t2, t3, t4, t5, t6⟩, sc⟩, g⟩ := xc_use h (sp_X12_layMatched H ok.1 ok.2.1 os.2.1)
  have eA : H1 591 = H 591 := sc.1 591 (by decide) (by decide)
  have t26 : H1 590 26 = (tlZ (H 591)).1 := l1.1.1
  have b60 := l1.2.1
  have z3 : zw (12 + (tlZ (H 591)).1) = 12 + (tlZ (H 591)).1 := zw_lit (by omega) (by omega)
  by_cases qb : 0 ≤ b ∧ b ≤ H 591 0 - 1
  · have b0 := qb.1
    have b1 := qb.2
    have b2 : ¬ b < 0 := by omega
    have b3 : ¬ H 591 0 - 1 < b := by omega
    by_cases qs : 0 ≤ s ∧ s ≤ 71
    · have s0 := qs.1
      have s1 := qs.2
      have s2 : ¬ s < 0 := by omega
      have s3 : ¬ 71 < s := by omega
      have z4 : zw (12 * s) = 12 * s := zw_lit (by omega) (by omega)
      have z5 : zw (12 * s + b) = 12 * s + b := zw_lit (by omega) (by omega)
      have e := t3 (12 * s + b) (by omega) (by omega)
      by_cases c : s < 12
      · by_cases c2 : s < H 591 0
        · simp (maxDischargeDepth := 12) -implicitDefEqProofs [vb_X12_brought_0, vb_X12_brought_44, vb_X12_brought_45, xI_0, xI_1, xI_7, xI_8, xI_14, xI_16, xI_36, xI_37, xI_49, xI_51, xI_60, xI_61, xI_62, xw_X12_brought_0, xw_X12_brought_44, xw_X12_brought_45, zw_lit, xB_c, xB_s, xB_n, i1_c, j2_c, k1_c, jJ_e, xlg, xls, xla, xpd, ppush, zw_m1, zw_m2, zw_m3, gf_12_29, tg_12_29, gv_590_29, xD1, xD2, xD3, xD4, xD5, xD6, xb1_0, eA, t26, z0, z3, z4, z5, b0, b1, b2, b3, s0, s1, s2, s3, c, c2, e] at g
          exact ⟨_, H1, g, by unfold brQ; rw [if_pos (by omega)], MQs_SCa sc⟩
        · simp (maxDischargeDepth := 12) -implicitDefEqProofs [vb_X12_brought_0, vb_X12_brought_44, vb_X12_brought_45, xI_0, xI_1, xI_7, xI_8, xI_14, xI_16, xI_36, xI_37, xI_49, xI_51, xI_60, xI_61, xI_62, xw_X12_brought_0, xw_X12_brought_44, xw_X12_brought_45, zw_lit, xB_c, xB_s, xB_n, i1_c, j2_c, k1_c, jJ_e, xlg, xls, xla, xpd, ppush, zw_m1, zw_m2, zw_m3, gf_12_29, tg_12_29, gv_590_29, xD1, xD2, xD3, xD4, xD5, xD6, xb1_0, eA, t26, z0, z3, z4, z5, b0, b1, b2, b3, s0, s1, s2, s3, c, c2] at g
          exact ⟨_, H1, g, by unfold brQ; rw [if_neg (by omega)], MQs_SCa sc⟩
      · by_cases c2 : s < 12 + (tlZ (H 591)).1
        · simp (maxDischargeDepth := 12) -implicitDefEqProofs [vb_X12_brought_0, vb_X12_brought_44, vb_X12_brought_45, xI_0, xI_1, xI_7, xI_8, xI_14, xI_16, xI_36, xI_37, xI_49, xI_51, xI_60, xI_61, xI_62, xw_X12_brought_0, xw_X12_brought_44, xw_X12_brought_45, zw_lit, xB_c, xB_s, xB_n, i1_c, j2_c, k1_c, jJ_e, xlg, xls, xla, xpd, ppush, zw_m1, zw_m2, zw_m3, gf_12_29, tg_12_29, gv_590_29, xD1, xD2, xD3, xD4, xD5, xD6, xb1_0, eA, t26, z0, z3, z4, z5, b0, b1, b2, b3, s0, s1, s2, s3, c, c2, e] at g
          exact ⟨_, H1, g, by unfold brQ; rw [if_pos (by omega)], MQs_SCa sc⟩
        · simp (maxDischargeDepth := 12) -implicitDefEqProofs [vb_X12_brought_0, vb_X12_brought_44, vb_X12_brought_45, xI_0, xI_1, xI_7, xI_8, xI_14, xI_16, xI_36, xI_37, xI_49, xI_51, xI_60, xI_61, xI_62, xw_X12_brought_0, xw_X12_brought_44, xw_X12_brought_45, zw_lit, xB_c, xB_s, xB_n, i1_c, j2_c, k1_c, jJ_e, xlg, xls, xla, xpd, ppush, zw_m1, zw_m2, zw_m3, gf_12_29, tg_12_29, gv_590_29, xD1, xD2, xD3, xD4, xD5, xD6, xb1_0, eA, t26, z0, z3, z4, z5, b0, b1, b2, b3, s0, s1, s2, s3, c, c2] at g
          exact ⟨_, H1, g, by unfold brQ; rw [if_neg (by omega)], MQs_SCa sc⟩
    · by_cases s0 : 0 ≤ s
      · have s1 : ¬ s ≤ 71 := by omega
        have s2 : ¬ s < 0 := by omega
        have s3 : 71 < s := by omega
        simp (maxDischargeDepth := 12) -implicitDefEqProofs [vb_X12_brought_0, vb_X12_brought_44, vb_X12_brought_45, xI_0, xI_1, xI_7, xI_8, xI_14, xI_16, xI_36, xI_37, xI_49, xI_51, xI_60, xI_61, xI_62, xw_X12_brought_0, xw_X12_brought_44, xw_X12_brought_45, zw_lit, xB_c, xB_s, xB_n, i1_c, j2_c, k1_c, jJ_e, xlg, xls, xla, xpd, ppush, zw_m1, zw_m2, zw_m3, gf_12_29, tg_12_29, gv_590_29, xD1, xD2, xD3, xD4, xD5, xD6, xb1_0, eA, t26, z0, z3, b0, b1, b2, b3, s0, s1, s2, s3] at g
        exact ⟨_, H1, g, by unfold brQ; rw [if_neg (by omega)], MQs_SCa sc⟩
      · have s2 : s < 0 := by omega
        simp (maxDischargeDepth := 12) -implicitDefEqProofs [vb_X12_brought_0, vb_X12_brought_44, vb_X12_brought_45, xI_0, xI_1, xI_7, xI_8, xI_14, xI_16, xI_36, xI_37, xI_49, xI_51, xI_60, xI_61, xI_62, xw_X12_brought_0, xw_X12_brought_44, xw_X12_brought_45, zw_lit, xB_c, xB_s, xB_n, i1_c, j2_c, k1_c, jJ_e, xlg, xls, xla, xpd, ppush, zw_m1, zw_m2, zw_m3, gf_12_29, tg_12_29, gv_590_29, xD1, xD2, xD3, xD4, xD5, xD6, xb1_0, eA, t26, z0, z3, b0, b1, b2, b3, s0, s2] at g
        exact ⟨_, H1, g, by unfold brQ; rw [if_neg (by omega)], MQs_SCa sc⟩
  · by_cases b0 : 0 ≤ b
    · have b1 : ¬ b ≤ H 591 0 - 1 := by omega
      have b2 : ¬ b < 0 := by omega
      have b3 : H 591 0 - 1 < b := by omega
      simp (maxDischargeDepth := 12) -implicitDefEqProofs [vb_X12_brought_0, vb_X12_brought_44, vb_X12_brought_45, xI_0, xI_1, xI_7, xI_8, xI_14, xI_16, xI_36, xI_37, xI_49, xI_51, xI_60, xI_61, xI_62, xw_X12_brought_0, xw_X12_brought_44, xw_X12_brought_45, zw_lit, xB_c, xB_s, xB_n, i1_c, j2_c, k1_c, jJ_e, xlg, xls, xla, xpd, ppush, zw_m1, zw_m2, zw_m3, gf_12_29, tg_12_29, gv_590_29, xD1, xD2, xD3, xD4, xD5, xD6, xb1_0, eA, t26, z0, z3, b0, b1, b2, b3] at g
      exact ⟨_, H1, g, by unfold brQ; rw [if_neg (by omega)], MQs_SCa sc⟩
    · have b2 : b < 0 := by omega
      simp (maxDischargeDepth := 12) -implicitDefEqProofs [vb_X12_brought_0, vb_X12_brought_44, vb_X12_brought_45, xI_0, xI_1, xI_7, xI_8, xI_14, xI_16, xI_36, xI_37, xI_49, xI_51, xI_60, xI_61, xI_62, xw_X12_brought_0, xw_X12_brought_44, xw_X12_brought_45, zw_lit, xB_c, xB_s, xB_n, i1_c, j2_c, k1_c, jJ_e, xlg, xls, xla, xpd, ppush, zw_m1, zw_m2, zw_m3, gf_12_29, tg_12_29, gv_590_29, xD1, xD2, xD3, xD4, xD5, xD6, xb1_0, eA, t26, z0, z3, b0, b2] at g
      exact ⟨_, H1, g, by unfold brQ; rw [if_neg (by omega)], MQs_SCa sc⟩
/-! pairs -/
theorem pr_read (k : Int) (H : PH) (h : REL H) : PAIR 114 [(2, 0), (0, k)] 204 [(2, 590), (0, k)] H := by
  obtain ⟨⟨S, n, rl⟩, tp⟩ := h
  intro E N res hh
  obtain ⟨r, H1, g, rfl, cq⟩ := sp_c_read k S n H rl.2.1 rl.2.2.1 E N res hh
  refine ⟨_, H1, g, ⟨_, rfl⟩, ?_⟩
  obtain ⟨x1, x2, x3, x4, x5⟩ := RL_mid rl cq.2.2.1
  intro E N res hh
  obtain ⟨r', H2, g', rfl, mq⟩ := sp_m_read k H1 x4 E N res hh
  exact ⟨_, H2, g', by rw [x1], REL_MQ (REL_CQ rl tp cq) mq⟩
theorem pr_shed (b : Int) (H : PH) (h : REL H) : PAIR 134 [(2, 0), (0, b)] 252 [(2, 590), (0, b)] H := by
  obtain ⟨⟨S, n, rl⟩, tp⟩ := h
  intro E N res hh
  obtain ⟨r, H1, g, rfl, cq⟩ := sp_c_shed b S n H rl.2.1 rl.2.2.1 E N res hh
  refine ⟨_, H1, g, ⟨_, rfl⟩, ?_⟩
  obtain ⟨x1, x2, x3, x4, x5⟩ := RL_mid rl cq.2.2.1
  intro E N res hh
  obtain ⟨r', H2, g', rfl, mq⟩ := sp_m_shed b H1 x4 E N res hh
  exact ⟨_, H2, g', by rw [x1], REL_MQ (REL_CQ rl tp cq) mq⟩
theorem pr_matched (w : Int) (H : PH) (h : REL H) : PAIR 119 [(2, 0), (0, w)] 221 [(2, 590), (0, w)] H := by
  obtain ⟨⟨S, n, rl⟩, tp⟩ := h
  intro E N res hh
  obtain ⟨r, H1, g, rfl, cq⟩ := sp_c_matched w S n H rl.2.1 rl.2.2.1 E N res hh
  refine ⟨_, H1, g, ⟨_, rfl⟩, ?_⟩
  obtain ⟨x1, x2, x3, x4, x5⟩ := RL_mid rl cq.2.2.1
  intro E N res hh
  obtain ⟨r', H2, g', rfl, mq⟩ := sp_m_matched w H1 x4 E N res hh
  exact ⟨_, H2, g', by rw [x1], REL_MQ (REL_CQ rl tp cq) mq⟩
theorem pr_apart (k b : Int) (H : PH) (h : REL H) : PAIR 113 [(2, 0), (0, k), (0, b)] 200 [(2, 590), (0, k), (0, b)] H := by
  obtain ⟨⟨S, n, rl⟩, tp⟩ := h
  intro E N res hh
  obtain ⟨r, H1, g, rfl, cq⟩ := sp_c_apart k b S n H rl.2.1 rl.2.2.1 E N res hh
  refine ⟨_, H1, g, ⟨_, rfl⟩, ?_⟩
  obtain ⟨x1, x2, x3, x4, x5⟩ := RL_mid rl cq.2.2.1
  intro E N res hh
  obtain ⟨r', H2, g', rfl, mq⟩ := sp_m_apart k b H1 x4 E N res hh
  exact ⟨_, H2, g', by rw [x1], REL_MQ (REL_CQ rl tp cq) mq⟩
theorem pr_brought (s b : Int) (H : PH) (h : REL H) : PAIR 118 [(2, 0), (0, s), (0, b)] 220 [(2, 590), (0, s), (0, b)] H := by
  obtain ⟨⟨S, n, rl⟩, tp⟩ := h
  intro E N res hh
  obtain ⟨r, H1, g, rfl, cq⟩ := sp_c_brought s b S n H rl.2.1 rl.2.2.1 E N res hh
  refine ⟨_, H1, g, ⟨_, rfl⟩, ?_⟩
  obtain ⟨x1, x2, x3, x4, x5⟩ := RL_mid rl cq.2.2.1
  intro E N res hh
  obtain ⟨r', H2, g', rfl, mq⟩ := sp_m_brought s b H1 x4 E N res hh
  exact ⟨_, H2, g', by rw [x1], REL_MQ (REL_CQ rl tp cq) mq⟩
theorem pr_least (k : Int) (H : PH) (h : REL H) : PAIR 115 [(2, 0), (0, k)] 205 [(2, 590), (0, k)] H := by
  obtain ⟨⟨S, n, rl⟩, tp⟩ := h
  intro E N res hh
  obtain ⟨r, H1, g, rfl, cq⟩ := sp_c_least k S n H rl.2.1 rl.2.2.1 E N res hh
  refine ⟨_, H1, g, ⟨_, rfl⟩, ?_⟩
  obtain ⟨x1, x2, x3, x4, x5⟩ := RL_mid rl cq.2.2.1
  intro E N res hh
  obtain ⟨r', H2, g', rfl, mq⟩ := sp_m_least k H1 x4 E N res hh
  exact ⟨_, H2, g', by rw [x1], REL_MQ (REL_CQ rl tp cq) mq⟩
theorem pr_heap (u w : Int) (H : PH) (h : REL H) : PAIR 116 [(2, 0), (0, u), (0, w)] 219 [(2, 590), (0, u), (0, w)] H := by
  obtain ⟨⟨S, n, rl⟩, tp⟩ := h
  intro E N res hh
  obtain ⟨r, H1, g, rfl, cq⟩ := sp_c_heap u w S n H rl.2.1 rl.2.2.1 E N res hh
  refine ⟨_, H1, g, ⟨_, rfl⟩, ?_⟩
  obtain ⟨x1, x2, x3, x4, x5⟩ := RL_mid rl cq.2.2.1
  intro E N res hh
  obtain ⟨r', H2, g', rfl, mq⟩ := sp_m_heap u w H1 x4 E N res hh
  exact ⟨_, H2, g', by rw [x1], REL_MQ (REL_CQ rl tp cq) mq⟩
theorem pr_tally (b w : Int) (H : PH) (h : REL H) : PAIR 117 [(2, 0), (0, b), (0, w)] 218 [(2, 590), (0, b), (0, w)] H := by
  obtain ⟨⟨S, n, rl⟩, tp⟩ := h
  intro E N res hh
  obtain ⟨r, H1, g, rfl, cq⟩ := sp_c_tally b w S n H rl.2.1 rl.2.2.1 E N res hh
  refine ⟨_, H1, g, ⟨_, rfl⟩, ?_⟩
  obtain ⟨x1, x2, x3, x4, x5⟩ := RL_mid rl cq.2.2.1
  intro E N res hh
  obtain ⟨r', H2, g', rfl, mq⟩ := sp_m_tally b w H1 x4 E N res hh
  exact ⟨_, H2, g', by rw [x1], REL_MQ (REL_CQ rl tp cq) mq⟩
