def xm_X11_read : List xbT := [(0, vb_X11_read_0, some 10), (10, vb_X11_read_10, none)]
theorem xc_X11_read : xOK kd_X11_read xm_X11_read := ⟨ve_X11_read_0, ve_X11_read_10, trivial⟩
theorem xa_X11_read : xm_X11_read.all (fun q => aOKb q.2.1 && !q.2.1.isEmpty) = true := by decide +kernel
theorem xw_X11_read_0 {E : xE} {res : xR} {N : Nat} {hd : List Nat} {C : xCT} {k : Nat} {L : List Int} {st : List pv} {H : PH} : xW E res N kd_X11_read xm_X11_read hd C (k + 1) 0 L st H = xB (fun t L st H => if t ∈ hd then xJ E res N kd_X11_read t L st H else xW E res N kd_X11_read xm_X11_read hd C k t L st H) (REPR E res) C (some 10) vb_X11_read_0 0 L st H := Eq.trans rfl rfl
theorem xw_X11_read_10 {E : xE} {res : xR} {N : Nat} {hd : List Nat} {C : xCT} {k : Nat} {L : List Int} {st : List pv} {H : PH} : xW E res N kd_X11_read xm_X11_read hd C (k + 1) 10 L st H = xB (fun t L st H => if t ∈ hd then xJ E res N kd_X11_read t L st H else xW E res N kd_X11_read xm_X11_read hd C k t L st H) (REPR E res) C (none) vb_X11_read_10 10 L st H := Eq.trans rfl rfl
def xm_X11_apart : List xbT := [(0, vb_X11_apart_0, some 16), (16, vb_X11_apart_16, some 18), (18, vb_X11_apart_18, none)]
theorem xc_X11_apart : xOK kd_X11_apart xm_X11_apart := ⟨ve_X11_apart_0, ve_X11_apart_16, ve_X11_apart_18, trivial⟩
theorem xa_X11_apart : xm_X11_apart.all (fun q => aOKb q.2.1 && !q.2.1.isEmpty) = true := by decide +kernel
theorem xw_X11_apart_0 {E : xE} {res : xR} {N : Nat} {hd : List Nat} {C : xCT} {k : Nat} {L : List Int} {st : List pv} {H : PH} : xW E res N kd_X11_apart xm_X11_apart hd C (k + 1) 0 L st H = xB (fun t L st H => if t ∈ hd then xJ E res N kd_X11_apart t L st H else xW E res N kd_X11_apart xm_X11_apart hd C k t L st H) (REPR E res) C (some 16) vb_X11_apart_0 0 L st H := Eq.trans rfl rfl
theorem xw_X11_apart_16 {E : xE} {res : xR} {N : Nat} {hd : List Nat} {C : xCT} {k : Nat} {L : List Int} {st : List pv} {H : PH} : xW E res N kd_X11_apart xm_X11_apart hd C (k + 1) 16 L st H = xB (fun t L st H => if t ∈ hd then xJ E res N kd_X11_apart t L st H else xW E res N kd_X11_apart xm_X11_apart hd C k t L st H) (REPR E res) C (some 18) vb_X11_apart_16 16 L st H := Eq.trans rfl rfl
theorem xw_X11_apart_18 {E : xE} {res : xR} {N : Nat} {hd : List Nat} {C : xCT} {k : Nat} {L : List Int} {st : List pv} {H : PH} : xW E res N kd_X11_apart xm_X11_apart hd C (k + 1) 18 L st H = xB (fun t L st H => if t ∈ hd then xJ E res N kd_X11_apart t L st H else xW E res N kd_X11_apart xm_X11_apart hd C k t L st H) (REPR E res) C (none) vb_X11_apart_18 18 L st H := Eq.trans rfl rfl
def xm_X11_least : List xbT := [(0, vb_X11_least_0, some 10), (10, vb_X11_least_10, some 40), (40, vb_X11_least_40, some 41), (41, vb_X11_least_41, none)]
theorem xc_X11_least : xOK kd_X11_least xm_X11_least := ⟨ve_X11_least_0, ve_X11_least_10, ve_X11_least_40, ve_X11_least_41, trivial⟩
theorem xa_X11_least : xm_X11_least.all (fun q => aOKb q.2.1 && !q.2.1.isEmpty) = true := by decide +kernel
theorem xw_X11_least_0 {E : xE} {res : xR} {N : Nat} {hd : List Nat} {C : xCT} {k : Nat} {L : List Int} {st : List pv} {H : PH} : xW E res N kd_X11_least xm_X11_least hd C (k + 1) 0 L st H = xB (fun t L st H => if t ∈ hd then xJ E res N kd_X11_least t L st H else xW E res N kd_X11_least xm_X11_least hd C k t L st H) (REPR E res) C (some 10) vb_X11_least_0 0 L st H := Eq.trans rfl rfl
theorem xw_X11_least_10 {E : xE} {res : xR} {N : Nat} {hd : List Nat} {C : xCT} {k : Nat} {L : List Int} {st : List pv} {H : PH} : xW E res N kd_X11_least xm_X11_least hd C (k + 1) 10 L st H = xB (fun t L st H => if t ∈ hd then xJ E res N kd_X11_least t L st H else xW E res N kd_X11_least xm_X11_least hd C k t L st H) (REPR E res) C (some 40) vb_X11_least_10 10 L st H := Eq.trans rfl rfl
theorem xw_X11_least_40 {E : xE} {res : xR} {N : Nat} {hd : List Nat} {C : xCT} {k : Nat} {L : List Int} {st : List pv} {H : PH} : xW E res N kd_X11_least xm_X11_least hd C (k + 1) 40 L st H = xB (fun t L st H => if t ∈ hd then xJ E res N kd_X11_least t L st H else xW E res N kd_X11_least xm_X11_least hd C k t L st H) (REPR E res) C (some 41) vb_X11_least_40 40 L st H := Eq.trans rfl rfl
theorem xw_X11_least_41 {E : xE} {res : xR} {N : Nat} {hd : List Nat} {C : xCT} {k : Nat} {L : List Int} {st : List pv} {H : PH} : xW E res N kd_X11_least xm_X11_least hd C (k + 1) 41 L st H = xB (fun t L st H => if t ∈ hd then xJ E res N kd_X11_least t L st H else xW E res N kd_X11_least xm_X11_least hd C k t L st H) (REPR E res) C (none) vb_X11_least_41 41 L st H := Eq.trans rfl rfl
def xm_X11_heap : List xbT := [(0, vb_X11_heap_0, some 23), (23, vb_X11_heap_23, some 64), (64, vb_X11_heap_64, some 74), (74, vb_X11_heap_74, some 84), (84, vb_X11_heap_84, some 94), (94, vb_X11_heap_94, some 104), (104, vb_X11_heap_104, some 114), (114, vb_X11_heap_114, none)]
theorem xc_X11_heap : xOK kd_X11_heap xm_X11_heap := ⟨ve_X11_heap_0, ve_X11_heap_23, ve_X11_heap_64, ve_X11_heap_74, ve_X11_heap_84, ve_X11_heap_94, ve_X11_heap_104, ve_X11_heap_114, trivial⟩
theorem xa_X11_heap : xm_X11_heap.all (fun q => aOKb q.2.1 && !q.2.1.isEmpty) = true := by decide +kernel
theorem xw_X11_heap_0 {E : xE} {res : xR} {N : Nat} {hd : List Nat} {C : xCT} {k : Nat} {L : List Int} {st : List pv} {H : PH} : xW E res N kd_X11_heap xm_X11_heap hd C (k + 1) 0 L st H = xB (fun t L st H => if t ∈ hd then xJ E res N kd_X11_heap t L st H else xW E res N kd_X11_heap xm_X11_heap hd C k t L st H) (REPR E res) C (some 23) vb_X11_heap_0 0 L st H := Eq.trans rfl rfl
theorem xw_X11_heap_23 {E : xE} {res : xR} {N : Nat} {hd : List Nat} {C : xCT} {k : Nat} {L : List Int} {st : List pv} {H : PH} : xW E res N kd_X11_heap xm_X11_heap hd C (k + 1) 23 L st H = xB (fun t L st H => if t ∈ hd then xJ E res N kd_X11_heap t L st H else xW E res N kd_X11_heap xm_X11_heap hd C k t L st H) (REPR E res) C (some 64) vb_X11_heap_23 23 L st H := Eq.trans rfl rfl
theorem xw_X11_heap_64 {E : xE} {res : xR} {N : Nat} {hd : List Nat} {C : xCT} {k : Nat} {L : List Int} {st : List pv} {H : PH} : xW E res N kd_X11_heap xm_X11_heap hd C (k + 1) 64 L st H = xB (fun t L st H => if t ∈ hd then xJ E res N kd_X11_heap t L st H else xW E res N kd_X11_heap xm_X11_heap hd C k t L st H) (REPR E res) C (some 74) vb_X11_heap_64 64 L st H := Eq.trans rfl rfl
theorem xw_X11_heap_74 {E : xE} {res : xR} {N : Nat} {hd : List Nat} {C : xCT} {k : Nat} {L : List Int} {st : List pv} {H : PH} : xW E res N kd_X11_heap xm_X11_heap hd C (k + 1) 74 L st H = xB (fun t L st H => if t ∈ hd then xJ E res N kd_X11_heap t L st H else xW E res N kd_X11_heap xm_X11_heap hd C k t L st H) (REPR E res) C (some 84) vb_X11_heap_74 74 L st H := Eq.trans rfl rfl
theorem xw_X11_heap_84 {E : xE} {res : xR} {N : Nat} {hd : List Nat} {C : xCT} {k : Nat} {L : List Int} {st : List pv} {H : PH} : xW E res N kd_X11_heap xm_X11_heap hd C (k + 1) 84 L st H = xB (fun t L st H => if t ∈ hd then xJ E res N kd_X11_heap t L st H else xW E res N kd_X11_heap xm_X11_heap hd C k t L st H) (REPR E res) C (some 94) vb_X11_heap_84 84 L st H := Eq.trans rfl rfl
theorem xw_X11_heap_94 {E : xE} {res : xR} {N : Nat} {hd : List Nat} {C : xCT} {k : Nat} {L : List Int} {st : List pv} {H : PH} : xW E res N kd_X11_heap xm_X11_heap hd C (k + 1) 94 L st H = xB (fun t L st H => if t ∈ hd then xJ E res N kd_X11_heap t L st H else xW E res N kd_X11_heap xm_X11_heap hd C k t L st H) (REPR E res) C (some 104) vb_X11_heap_94 94 L st H := Eq.trans rfl rfl
theorem xw_X11_heap_104 {E : xE} {res : xR} {N : Nat} {hd : List Nat} {C : xCT} {k : Nat} {L : List Int} {st : List pv} {H : PH} : xW E res N kd_X11_heap xm_X11_heap hd C (k + 1) 104 L st H = xB (fun t L st H => if t ∈ hd then xJ E res N kd_X11_heap t L st H else xW E res N kd_X11_heap xm_X11_heap hd C k t L st H) (REPR E res) C (some 114) vb_X11_heap_104 104 L st H := Eq.trans rfl rfl
theorem xw_X11_heap_114 {E : xE} {res : xR} {N : Nat} {hd : List Nat} {C : xCT} {k : Nat} {L : List Int} {st : List pv} {H : PH} : xW E res N kd_X11_heap xm_X11_heap hd C (k + 1) 114 L st H = xB (fun t L st H => if t ∈ hd then xJ E res N kd_X11_heap t L st H else xW E res N kd_X11_heap xm_X11_heap hd C k t L st H) (REPR E res) C (none) vb_X11_heap_114 114 L st H := Eq.trans rfl rfl
def xm_X11_tally : List xbT := [(0, vb_X11_tally_0, some 10), (10, vb_X11_tally_10, some 64), (64, vb_X11_tally_64, some 74), (74, vb_X11_tally_74, some 84), (84, vb_X11_tally_84, some 94), (94, vb_X11_tally_94, some 107), (107, vb_X11_tally_107, some 117), (117, vb_X11_tally_117, some 127), (127, vb_X11_tally_127, some 137), (137, vb_X11_tally_137, some 147), (147, vb_X11_tally_147, some 156), (156, vb_X11_tally_156, none)]
theorem xc_X11_tally : xOK kd_X11_tally xm_X11_tally := ⟨ve_X11_tally_0, ve_X11_tally_10, ve_X11_tally_64, ve_X11_tally_74, ve_X11_tally_84, ve_X11_tally_94, ve_X11_tally_107, ve_X11_tally_117, ve_X11_tally_127, ve_X11_tally_137, ve_X11_tally_147, ve_X11_tally_156, trivial⟩
theorem xa_X11_tally : xm_X11_tally.all (fun q => aOKb q.2.1 && !q.2.1.isEmpty) = true := by decide +kernel
theorem xw_X11_tally_0 {E : xE} {res : xR} {N : Nat} {hd : List Nat} {C : xCT} {k : Nat} {L : List Int} {st : List pv} {H : PH} : xW E res N kd_X11_tally xm_X11_tally hd C (k + 1) 0 L st H = xB (fun t L st H => if t ∈ hd then xJ E res N kd_X11_tally t L st H else xW E res N kd_X11_tally xm_X11_tally hd C k t L st H) (REPR E res) C (some 10) vb_X11_tally_0 0 L st H := Eq.trans rfl rfl
theorem xw_X11_tally_10 {E : xE} {res : xR} {N : Nat} {hd : List Nat} {C : xCT} {k : Nat} {L : List Int} {st : List pv} {H : PH} : xW E res N kd_X11_tally xm_X11_tally hd C (k + 1) 10 L st H = xB (fun t L st H => if t ∈ hd then xJ E res N kd_X11_tally t L st H else xW E res N kd_X11_tally xm_X11_tally hd C k t L st H) (REPR E res) C (some 64) vb_X11_tally_10 10 L st H := Eq.trans rfl rfl
theorem xw_X11_tally_64 {E : xE} {res : xR} {N : Nat} {hd : List Nat} {C : xCT} {k : Nat} {L : List Int} {st : List pv} {H : PH} : xW E res N kd_X11_tally xm_X11_tally hd C (k + 1) 64 L st H = xB (fun t L st H => if t ∈ hd then xJ E res N kd_X11_tally t L st H else xW E res N kd_X11_tally xm_X11_tally hd C k t L st H) (REPR E res) C (some 74) vb_X11_tally_64 64 L st H := Eq.trans rfl rfl
theorem xw_X11_tally_74 {E : xE} {res : xR} {N : Nat} {hd : List Nat} {C : xCT} {k : Nat} {L : List Int} {st : List pv} {H : PH} : xW E res N kd_X11_tally xm_X11_tally hd C (k + 1) 74 L st H = xB (fun t L st H => if t ∈ hd then xJ E res N kd_X11_tally t L st H else xW E res N kd_X11_tally xm_X11_tally hd C k t L st H) (REPR E res) C (some 84) vb_X11_tally_74 74 L st H := Eq.trans rfl rfl
theorem xw_X11_tally_84 {E : xE} {res : xR} {N : Nat} {hd : List Nat} {C : xCT} {k : Nat} {L : List Int} {st : List pv} {H : PH} : xW E res N kd_X11_tally xm_X11_tally hd C (k + 1) 84 L st H = xB (fun t L st H => if t ∈ hd then xJ E res N kd_X11_tally t L st H else xW E res N kd_X11_tally xm_X11_tally hd C k t L st H) (REPR E res) C (some 94) vb_X11_tally_84 84 L st H := Eq.trans rfl rfl
theorem xw_X11_tally_94 {E : xE} {res : xR} {N : Nat} {hd : List Nat} {C : xCT} {k : Nat} {L : List Int} {st : List pv} {H : PH} : xW E res N kd_X11_tally xm_X11_tally hd C (k + 1) 94 L st H = xB (fun t L st H => if t ∈ hd then xJ E res N kd_X11_tally t L st H else xW E res N kd_X11_tally xm_X11_tally hd C k t L st H) (REPR E res) C (some 107) vb_X11_tally_94 94 L st H := Eq.trans rfl rfl
theorem xw_X11_tally_107 {E : xE} {res : xR} {N : Nat} {hd : List Nat} {C : xCT} {k : Nat} {L : List Int} {st : List pv} {H : PH} : xW E res N kd_X11_tally xm_X11_tally hd C (k + 1) 107 L st H = xB (fun t L st H => if t ∈ hd then xJ E res N kd_X11_tally t L st H else xW E res N kd_X11_tally xm_X11_tally hd C k t L st H) (REPR E res) C (some 117) vb_X11_tally_107 107 L st H := Eq.trans rfl rfl
theorem xw_X11_tally_117 {E : xE} {res : xR} {N : Nat} {hd : List Nat} {C : xCT} {k : Nat} {L : List Int} {st : List pv} {H : PH} : xW E res N kd_X11_tally xm_X11_tally hd C (k + 1) 117 L st H = xB (fun t L st H => if t ∈ hd then xJ E res N kd_X11_tally t L st H else xW E res N kd_X11_tally xm_X11_tally hd C k t L st H) (REPR E res) C (some 127) vb_X11_tally_117 117 L st H := Eq.trans rfl rfl
theorem xw_X11_tally_127 {E : xE} {res : xR} {N : Nat} {hd : List Nat} {C : xCT} {k : Nat} {L : List Int} {st : List pv} {H : PH} : xW E res N kd_X11_tally xm_X11_tally hd C (k + 1) 127 L st H = xB (fun t L st H => if t ∈ hd then xJ E res N kd_X11_tally t L st H else xW E res N kd_X11_tally xm_X11_tally hd C k t L st H) (REPR E res) C (some 137) vb_X11_tally_127 127 L st H := Eq.trans rfl rfl
theorem xw_X11_tally_137 {E : xE} {res : xR} {N : Nat} {hd : List Nat} {C : xCT} {k : Nat} {L : List Int} {st : List pv} {H : PH} : xW E res N kd_X11_tally xm_X11_tally hd C (k + 1) 137 L st H = xB (fun t L st H => if t ∈ hd then xJ E res N kd_X11_tally t L st H else xW E res N kd_X11_tally xm_X11_tally hd C k t L st H) (REPR E res) C (some 147) vb_X11_tally_137 137 L st H := Eq.trans rfl rfl
theorem xw_X11_tally_147 {E : xE} {res : xR} {N : Nat} {hd : List Nat} {C : xCT} {k : Nat} {L : List Int} {st : List pv} {H : PH} : xW E res N kd_X11_tally xm_X11_tally hd C (k + 1) 147 L st H = xB (fun t L st H => if t ∈ hd then xJ E res N kd_X11_tally t L st H else xW E res N kd_X11_tally xm_X11_tally hd C k t L st H) (REPR E res) C (some 156) vb_X11_tally_147 147 L st H := Eq.trans rfl rfl
theorem xw_X11_tally_156 {E : xE} {res : xR} {N : Nat} {hd : List Nat} {C : xCT} {k : Nat} {L : List Int} {st : List pv} {H : PH} : xW E res N kd_X11_tally xm_X11_tally hd C (k + 1) 156 L st H = xB (fun t L st H => if t ∈ hd then xJ E res N kd_X11_tally t L st H else xW E res N kd_X11_tally xm_X11_tally hd C k t L st H) (REPR E res) C (none) vb_X11_tally_156 156 L st H := Eq.trans rfl rfl
def xm_X11_brought : List xbT := [(0, vb_X11_brought_0, some 40), (40, vb_X11_brought_40, some 42), (42, vb_X11_brought_42, none)]
theorem xc_X11_brought : xOK kd_X11_brought xm_X11_brought := ⟨ve_X11_brought_0, ve_X11_brought_40, ve_X11_brought_42, trivial⟩
theorem xa_X11_brought : xm_X11_brought.all (fun q => aOKb q.2.1 && !q.2.1.isEmpty) = true := by decide +kernel
theorem xw_X11_brought_0 {E : xE} {res : xR} {N : Nat} {hd : List Nat} {C : xCT} {k : Nat} {L : List Int} {st : List pv} {H : PH} : xW E res N kd_X11_brought xm_X11_brought hd C (k + 1) 0 L st H = xB (fun t L st H => if t ∈ hd then xJ E res N kd_X11_brought t L st H else xW E res N kd_X11_brought xm_X11_brought hd C k t L st H) (REPR E res) C (some 40) vb_X11_brought_0 0 L st H := Eq.trans rfl rfl
theorem xw_X11_brought_40 {E : xE} {res : xR} {N : Nat} {hd : List Nat} {C : xCT} {k : Nat} {L : List Int} {st : List pv} {H : PH} : xW E res N kd_X11_brought xm_X11_brought hd C (k + 1) 40 L st H = xB (fun t L st H => if t ∈ hd then xJ E res N kd_X11_brought t L st H else xW E res N kd_X11_brought xm_X11_brought hd C k t L st H) (REPR E res) C (some 42) vb_X11_brought_40 40 L st H := Eq.trans rfl rfl
theorem xw_X11_brought_42 {E : xE} {res : xR} {N : Nat} {hd : List Nat} {C : xCT} {k : Nat} {L : List Int} {st : List pv} {H : PH} : xW E res N kd_X11_brought xm_X11_brought hd C (k + 1) 42 L st H = xB (fun t L st H => if t ∈ hd then xJ E res N kd_X11_brought t L st H else xW E res N kd_X11_brought xm_X11_brought hd C k t L st H) (REPR E res) C (none) vb_X11_brought_42 42 L st H := Eq.trans rfl rfl
def xm_X11_matched : List xbT := [(0, vb_X11_matched_0, some 11), (11, vb_X11_matched_11, some 29), (29, vb_X11_matched_29, some 36), (36, vb_X11_matched_36, none)]
theorem xc_X11_matched : xOK kd_X11_matched xm_X11_matched := ⟨ve_X11_matched_0, ve_X11_matched_11, ve_X11_matched_29, ve_X11_matched_36, trivial⟩
theorem xa_X11_matched : xm_X11_matched.all (fun q => aOKb q.2.1 && !q.2.1.isEmpty) = true := by decide +kernel
theorem xw_X11_matched_0 {E : xE} {res : xR} {N : Nat} {hd : List Nat} {C : xCT} {k : Nat} {L : List Int} {st : List pv} {H : PH} : xW E res N kd_X11_matched xm_X11_matched hd C (k + 1) 0 L st H = xB (fun t L st H => if t ∈ hd then xJ E res N kd_X11_matched t L st H else xW E res N kd_X11_matched xm_X11_matched hd C k t L st H) (REPR E res) C (some 11) vb_X11_matched_0 0 L st H := Eq.trans rfl rfl
theorem xw_X11_matched_11 {E : xE} {res : xR} {N : Nat} {hd : List Nat} {C : xCT} {k : Nat} {L : List Int} {st : List pv} {H : PH} : xW E res N kd_X11_matched xm_X11_matched hd C (k + 1) 11 L st H = xB (fun t L st H => if t ∈ hd then xJ E res N kd_X11_matched t L st H else xW E res N kd_X11_matched xm_X11_matched hd C k t L st H) (REPR E res) C (some 29) vb_X11_matched_11 11 L st H := Eq.trans rfl rfl
theorem xw_X11_matched_29 {E : xE} {res : xR} {N : Nat} {hd : List Nat} {C : xCT} {k : Nat} {L : List Int} {st : List pv} {H : PH} : xW E res N kd_X11_matched xm_X11_matched hd C (k + 1) 29 L st H = xB (fun t L st H => if t ∈ hd then xJ E res N kd_X11_matched t L st H else xW E res N kd_X11_matched xm_X11_matched hd C k t L st H) (REPR E res) C (some 36) vb_X11_matched_29 29 L st H := Eq.trans rfl rfl
theorem xw_X11_matched_36 {E : xE} {res : xR} {N : Nat} {hd : List Nat} {C : xCT} {k : Nat} {L : List Int} {st : List pv} {H : PH} : xW E res N kd_X11_matched xm_X11_matched hd C (k + 1) 36 L st H = xB (fun t L st H => if t ∈ hd then xJ E res N kd_X11_matched t L st H else xW E res N kd_X11_matched xm_X11_matched hd C k t L st H) (REPR E res) C (none) vb_X11_matched_36 36 L st H := Eq.trans rfl rfl
def xm_X11_shed : List xbT := [(0, vb_X11_shed_0, some 10), (10, vb_X11_shed_10, none)]
theorem xc_X11_shed : xOK kd_X11_shed xm_X11_shed := ⟨ve_X11_shed_0, ve_X11_shed_10, trivial⟩
theorem xa_X11_shed : xm_X11_shed.all (fun q => aOKb q.2.1 && !q.2.1.isEmpty) = true := by decide +kernel
theorem xw_X11_shed_0 {E : xE} {res : xR} {N : Nat} {hd : List Nat} {C : xCT} {k : Nat} {L : List Int} {st : List pv} {H : PH} : xW E res N kd_X11_shed xm_X11_shed hd C (k + 1) 0 L st H = xB (fun t L st H => if t ∈ hd then xJ E res N kd_X11_shed t L st H else xW E res N kd_X11_shed xm_X11_shed hd C k t L st H) (REPR E res) C (some 10) vb_X11_shed_0 0 L st H := Eq.trans rfl rfl
theorem xw_X11_shed_10 {E : xE} {res : xR} {N : Nat} {hd : List Nat} {C : xCT} {k : Nat} {L : List Int} {st : List pv} {H : PH} : xW E res N kd_X11_shed xm_X11_shed hd C (k + 1) 10 L st H = xB (fun t L st H => if t ∈ hd then xJ E res N kd_X11_shed t L st H else xW E res N kd_X11_shed xm_X11_shed hd C k t L st H) (REPR E res) C (none) vb_X11_shed_10 10 L st H := Eq.trans rfl rfl
/-! ===== queries of the class: readings, tallies, the matching ===== -/
theorem sw_X11_is_0 : ptsw 8 189 0 13 #[72, 80, 88, 99, 107, 115, 123, 131, 136, 144, 153, 163, 173, 181] 0 = some 80 := by decide +kernel
theorem sw_X11_is_1 : ptsw 8 189 0 13 #[72, 80, 88, 99, 107, 115, 123, 131, 136, 144, 153, 163, 173, 181] 1 = some 88 := by decide +kernel
theorem sw_X11_is_2 : ptsw 8 189 0 13 #[72, 80, 88, 99, 107, 115, 123, 131, 136, 144, 153, 163, 173, 181] 2 = some 96 := by decide +kernel
theorem sw_X11_is_3 : ptsw 8 189 0 13 #[72, 80, 88, 99, 107, 115, 123, 131, 136, 144, 153, 163, 173, 181] 3 = some 107 := by decide +kernel
theorem sw_X11_is_4 : ptsw 8 189 0 13 #[72, 80, 88, 99, 107, 115, 123, 131, 136, 144, 153, 163, 173, 181] 4 = some 115 := by decide +kernel
theorem sw_X11_is_5 : ptsw 8 189 0 13 #[72, 80, 88, 99, 107, 115, 123, 131, 136, 144, 153, 163, 173, 181] 5 = some 123 := by decide +kernel
theorem sw_X11_is_6 : ptsw 8 189 0 13 #[72, 80, 88, 99, 107, 115, 123, 131, 136, 144, 153, 163, 173, 181] 6 = some 131 := by decide +kernel
theorem sw_X11_is_7 : ptsw 8 189 0 13 #[72, 80, 88, 99, 107, 115, 123, 131, 136, 144, 153, 163, 173, 181] 7 = some 139 := by decide +kernel
theorem sw_X11_is_8 : ptsw 8 189 0 13 #[72, 80, 88, 99, 107, 115, 123, 131, 136, 144, 153, 163, 173, 181] 8 = some 144 := by decide +kernel
theorem sw_X11_is_9 : ptsw 8 189 0 13 #[72, 80, 88, 99, 107, 115, 123, 131, 136, 144, 153, 163, 173, 181] 9 = some 152 := by decide +kernel
theorem sw_X11_is_10 : ptsw 8 189 0 13 #[72, 80, 88, 99, 107, 115, 123, 131, 136, 144, 153, 163, 173, 181] 10 = some 161 := by decide +kernel
theorem sw_X11_is_11 : ptsw 8 189 0 13 #[72, 80, 88, 99, 107, 115, 123, 131, 136, 144, 153, 163, 173, 181] 11 = some 171 := by decide +kernel
theorem sw_X11_is_12 : ptsw 8 189 0 13 #[72, 80, 88, 99, 107, 115, 123, 131, 136, 144, 153, 163, 173, 181] 12 = some 181 := by decide +kernel
theorem sw_X11_is_13 : ptsw 8 189 0 13 #[72, 80, 88, 99, 107, 115, 123, 131, 136, 144, 153, 163, 173, 181] 13 = some 189 := by decide +kernel
theorem sw_X11_is_d {x : Int} (h : ¬ (0 ≤ x ∧ x ≤ 13)) : ptsw 8 189 0 13 #[72, 80, 88, 99, 107, 115, 123, 131, 136, 144, 153, 163, 173, 181] x = some 197 := by
  unfold ptsw ptl
  rw [if_pos (by omega), if_pos (by decide)]
  rfl
theorem sw_X11_bill_0 : ptsw 21 63 0 4 #[35, 40, 45, 53, 58] 0 = some 56 := by decide +kernel
theorem sw_X11_bill_1 : ptsw 21 63 0 4 #[35, 40, 45, 53, 58] 1 = some 61 := by decide +kernel
theorem sw_X11_bill_2 : ptsw 21 63 0 4 #[35, 40, 45, 53, 58] 2 = some 66 := by decide +kernel
theorem sw_X11_bill_3 : ptsw 21 63 0 4 #[35, 40, 45, 53, 58] 3 = some 74 := by decide +kernel
theorem sw_X11_bill_4 : ptsw 21 63 0 4 #[35, 40, 45, 53, 58] 4 = some 79 := by decide +kernel
theorem sw_X11_bill_d {x : Int} (h : ¬ (0 ≤ x ∧ x ≤ 4)) : ptsw 21 63 0 4 #[35, 40, 45, 53, 58] x = some 84 := by
  unfold ptsw ptl
  rw [if_pos (by omega), if_pos (by decide)]
  rfl
theorem sw_X11_line_0 : ptsw 21 54 0 3 #[31, 36, 41, 46] 0 = some 52 := by decide +kernel
theorem sw_X11_line_1 : ptsw 21 54 0 3 #[31, 36, 41, 46] 1 = some 57 := by decide +kernel
theorem sw_X11_line_2 : ptsw 21 54 0 3 #[31, 36, 41, 46] 2 = some 62 := by decide +kernel
theorem sw_X11_line_3 : ptsw 21 54 0 3 #[31, 36, 41, 46] 3 = some 67 := by decide +kernel
theorem sw_X11_line_d {x : Int} (h : ¬ (0 ≤ x ∧ x ≤ 3)) : ptsw 21 54 0 3 #[31, 36, 41, 46] x = some 75 := by
  unfold ptsw ptl
  rw [if_pos (by omega), if_pos (by decide)]
  rfl
theorem sw_X11_heap_0 : ptsw 29 85 0 4 #[35, 45, 55, 65, 75] 0 = some 64 := by decide +kernel
theorem sw_X11_heap_1 : ptsw 29 85 0 4 #[35, 45, 55, 65, 75] 1 = some 74 := by decide +kernel
theorem sw_X11_heap_2 : ptsw 29 85 0 4 #[35, 45, 55, 65, 75] 2 = some 84 := by decide +kernel
theorem sw_X11_heap_3 : ptsw 29 85 0 4 #[35, 45, 55, 65, 75] 3 = some 94 := by decide +kernel
theorem sw_X11_heap_4 : ptsw 29 85 0 4 #[35, 45, 55, 65, 75] 4 = some 104 := by decide +kernel
theorem sw_X11_heap_d {x : Int} (h : ¬ (0 ≤ x ∧ x ≤ 4)) : ptsw 29 85 0 4 #[35, 45, 55, 65, 75] x = some 114 := by
  unfold ptsw ptl
  rw [if_pos (by omega), if_pos (by decide)]
  rfl
theorem sw_X11_tally_0 : ptsw 15 141 0 8 #[49, 59, 69, 79, 92, 102, 112, 122, 132] 0 = some 64 := by decide +kernel
theorem sw_X11_tally_1 : ptsw 15 141 0 8 #[49, 59, 69, 79, 92, 102, 112, 122, 132] 1 = some 74 := by decide +kernel
theorem sw_X11_tally_2 : ptsw 15 141 0 8 #[49, 59, 69, 79, 92, 102, 112, 122, 132] 2 = some 84 := by decide +kernel
theorem sw_X11_tally_3 : ptsw 15 141 0 8 #[49, 59, 69, 79, 92, 102, 112, 122, 132] 3 = some 94 := by decide +kernel
theorem sw_X11_tally_4 : ptsw 15 141 0 8 #[49, 59, 69, 79, 92, 102, 112, 122, 132] 4 = some 107 := by decide +kernel
theorem sw_X11_tally_5 : ptsw 15 141 0 8 #[49, 59, 69, 79, 92, 102, 112, 122, 132] 5 = some 117 := by decide +kernel
theorem sw_X11_tally_6 : ptsw 15 141 0 8 #[49, 59, 69, 79, 92, 102, 112, 122, 132] 6 = some 127 := by decide +kernel
theorem sw_X11_tally_7 : ptsw 15 141 0 8 #[49, 59, 69, 79, 92, 102, 112, 122, 132] 7 = some 137 := by decide +kernel
theorem sw_X11_tally_8 : ptsw 15 141 0 8 #[49, 59, 69, 79, 92, 102, 112, 122, 132] 8 = some 147 := by decide +kernel
theorem sw_X11_tally_d {x : Int} (h : ¬ (0 ≤ x ∧ x ≤ 8)) : ptsw 15 141 0 8 #[49, 59, 69, 79, 92, 102, 112, 122, 132] x = some 156 := by
  unfold ptsw ptl
  rw [if_pos (by omega), if_pos (by decide)]
  rfl
theorem sw_X11_hold_0 : ptsw 17 79 0 5 #[39, 39, 49, 49, 61, 70] 0 = some 56 := by decide +kernel
theorem sw_X11_hold_1 : ptsw 17 79 0 5 #[39, 39, 49, 49, 61, 70] 1 = some 56 := by decide +kernel
theorem sw_X11_hold_2 : ptsw 17 79 0 5 #[39, 39, 49, 49, 61, 70] 2 = some 66 := by decide +kernel
theorem sw_X11_hold_3 : ptsw 17 79 0 5 #[39, 39, 49, 49, 61, 70] 3 = some 66 := by decide +kernel
theorem sw_X11_hold_4 : ptsw 17 79 0 5 #[39, 39, 49, 49, 61, 70] 4 = some 78 := by decide +kernel
theorem sw_X11_hold_5 : ptsw 17 79 0 5 #[39, 39, 49, 49, 61, 70] 5 = some 87 := by decide +kernel
theorem sw_X11_hold_d {x : Int} (h : ¬ (0 ≤ x ∧ x ≤ 5)) : ptsw 17 79 0 5 #[39, 39, 49, 49, 61, 70] x = some 96 := by
  unfold ptsw ptl
  rw [if_pos (by omega), if_pos (by decide)]
  rfl
theorem sw_X12_is_0 : ptsw 1 168 0 13 #[71, 78, 85, 92, 101, 108, 115, 122, 127, 132, 138, 145, 152, 160] 0 = some 72 := by decide +kernel
theorem sw_X12_is_1 : ptsw 1 168 0 13 #[71, 78, 85, 92, 101, 108, 115, 122, 127, 132, 138, 145, 152, 160] 1 = some 79 := by decide +kernel
theorem sw_X12_is_2 : ptsw 1 168 0 13 #[71, 78, 85, 92, 101, 108, 115, 122, 127, 132, 138, 145, 152, 160] 2 = some 86 := by decide +kernel
theorem sw_X12_is_3 : ptsw 1 168 0 13 #[71, 78, 85, 92, 101, 108, 115, 122, 127, 132, 138, 145, 152, 160] 3 = some 93 := by decide +kernel
theorem sw_X12_is_4 : ptsw 1 168 0 13 #[71, 78, 85, 92, 101, 108, 115, 122, 127, 132, 138, 145, 152, 160] 4 = some 102 := by decide +kernel
theorem sw_X12_is_5 : ptsw 1 168 0 13 #[71, 78, 85, 92, 101, 108, 115, 122, 127, 132, 138, 145, 152, 160] 5 = some 109 := by decide +kernel
theorem sw_X12_is_6 : ptsw 1 168 0 13 #[71, 78, 85, 92, 101, 108, 115, 122, 127, 132, 138, 145, 152, 160] 6 = some 116 := by decide +kernel
theorem sw_X12_is_7 : ptsw 1 168 0 13 #[71, 78, 85, 92, 101, 108, 115, 122, 127, 132, 138, 145, 152, 160] 7 = some 123 := by decide +kernel
theorem sw_X12_is_8 : ptsw 1 168 0 13 #[71, 78, 85, 92, 101, 108, 115, 122, 127, 132, 138, 145, 152, 160] 8 = some 128 := by decide +kernel
theorem sw_X12_is_9 : ptsw 1 168 0 13 #[71, 78, 85, 92, 101, 108, 115, 122, 127, 132, 138, 145, 152, 160] 9 = some 133 := by decide +kernel
theorem sw_X12_is_10 : ptsw 1 168 0 13 #[71, 78, 85, 92, 101, 108, 115, 122, 127, 132, 138, 145, 152, 160] 10 = some 139 := by decide +kernel
theorem sw_X12_is_11 : ptsw 1 168 0 13 #[71, 78, 85, 92, 101, 108, 115, 122, 127, 132, 138, 145, 152, 160] 11 = some 146 := by decide +kernel
theorem sw_X12_is_12 : ptsw 1 168 0 13 #[71, 78, 85, 92, 101, 108, 115, 122, 127, 132, 138, 145, 152, 160] 12 = some 153 := by decide +kernel
theorem sw_X12_is_13 : ptsw 1 168 0 13 #[71, 78, 85, 92, 101, 108, 115, 122, 127, 132, 138, 145, 152, 160] 13 = some 161 := by decide +kernel
theorem sw_X12_is_d {x : Int} (h : ¬ (0 ≤ x ∧ x ≤ 13)) : ptsw 1 168 0 13 #[71, 78, 85, 92, 101, 108, 115, 122, 127, 132, 138, 145, 152, 160] x = some 169 := by
  unfold ptsw ptl
  rw [if_pos (by omega), if_pos (by decide)]
  rfl
theorem sw_X12_bill_0 : ptsw 16 85 0 4 #[36, 46, 56, 65, 75] 0 = some 52 := by decide +kernel
theorem sw_X12_bill_1 : ptsw 16 85 0 4 #[36, 46, 56, 65, 75] 1 = some 62 := by decide +kernel
theorem sw_X12_bill_2 : ptsw 16 85 0 4 #[36, 46, 56, 65, 75] 2 = some 72 := by decide +kernel
theorem sw_X12_bill_3 : ptsw 16 85 0 4 #[36, 46, 56, 65, 75] 3 = some 81 := by decide +kernel
theorem sw_X12_bill_4 : ptsw 16 85 0 4 #[36, 46, 56, 65, 75] 4 = some 91 := by decide +kernel
theorem sw_X12_bill_d {x : Int} (h : ¬ (0 ≤ x ∧ x ≤ 4)) : ptsw 16 85 0 4 #[36, 46, 56, 65, 75] x = some 101 := by
  unfold ptsw ptl
  rw [if_pos (by omega), if_pos (by decide)]
  rfl
theorem sw_X12_line_0 : ptsw 16 68 0 3 #[32, 41, 50, 59] 0 = some 48 := by decide +kernel
theorem sw_X12_line_1 : ptsw 16 68 0 3 #[32, 41, 50, 59] 1 = some 57 := by decide +kernel
theorem sw_X12_line_2 : ptsw 16 68 0 3 #[32, 41, 50, 59] 2 = some 66 := by decide +kernel
theorem sw_X12_line_3 : ptsw 16 68 0 3 #[32, 41, 50, 59] 3 = some 75 := by decide +kernel
theorem sw_X12_line_d {x : Int} (h : ¬ (0 ≤ x ∧ x ≤ 3)) : ptsw 16 68 0 3 #[32, 41, 50, 59] x = some 84 := by
  unfold ptsw ptl
  rw [if_pos (by omega), if_pos (by decide)]
  rfl
theorem sw_X12_tally_0 : ptsw 25 122 0 7 #[47, 54, 61, 68, 74, 91, 108, 115] 0 = some 72 := by decide +kernel
theorem sw_X12_tally_1 : ptsw 25 122 0 7 #[47, 54, 61, 68, 74, 91, 108, 115] 1 = some 79 := by decide +kernel
theorem sw_X12_tally_2 : ptsw 25 122 0 7 #[47, 54, 61, 68, 74, 91, 108, 115] 2 = some 86 := by decide +kernel
theorem sw_X12_tally_3 : ptsw 25 122 0 7 #[47, 54, 61, 68, 74, 91, 108, 115] 3 = some 93 := by decide +kernel
theorem sw_X12_tally_4 : ptsw 25 122 0 7 #[47, 54, 61, 68, 74, 91, 108, 115] 4 = some 99 := by decide +kernel
theorem sw_X12_tally_5 : ptsw 25 122 0 7 #[47, 54, 61, 68, 74, 91, 108, 115] 5 = some 116 := by decide +kernel
theorem sw_X12_tally_6 : ptsw 25 122 0 7 #[47, 54, 61, 68, 74, 91, 108, 115] 6 = some 133 := by decide +kernel
theorem sw_X12_tally_7 : ptsw 25 122 0 7 #[47, 54, 61, 68, 74, 91, 108, 115] 7 = some 140 := by decide +kernel
theorem sw_X12_tally_d {x : Int} (h : ¬ (0 ≤ x ∧ x ≤ 7)) : ptsw 25 122 0 7 #[47, 54, 61, 68, 74, 91, 108, 115] x = some 147 := by
  unfold ptsw ptl
  rw [if_pos (by omega), if_pos (by decide)]
  rfl
theorem sp_c_refresh (S : Int → Int → Int) (n : Int) (H : PH) (hR : RC H S n) (hM : MCC (S 0) H) : SPEC 87 [(2, 215)] H (fun r H' => r = none ∧ CQ H H' S n ∧ TCf (S 0) H') := by
  intro E n' res h
  obtain ⟨x1, x2, ld, x4, h8, x6, x7⟩ := id hR
  have ok0 := RC_sz hR
  have os := ok0.2.2.1
  unfold OKS at os
  obtain ⟨r, H1, g, rfl, c1, t1, e1, f1⟩ := sp_X9_refresh (S 0) H ok0.1 ok0.2.1 os.1 x1 hM.1 E n' res h
  refine ⟨_, H1, g, rfl, ?_, t1⟩
  by_cases q : H 215 1 = 0
  · have f := f1 q
    have e221 : H1 221 = H 221 := by
      rw [f.1 221 (by decide) (by decide) (by decide) (by decide) (nKL (by decide) (by decide)).1 (nKL (by decide) (by decide)).2 (nKW (by decide) (by decide)) (by decide), xp_ne (by decide)]
    exact CQ_AF hR (AF_trans (AF_up (by decide)) (AF_TF f)) c1 ⟨fun _ => t1, fun w => by
      rw [e221] at w
      exact ((hM.2 w).1 q).elim⟩
  · have e := e1 q
    rw [e]
    exact CQ_refl hR hM
theorem sp_c_match (S : Int → Int → Int) (n : Int) (H : PH) (hR : RC H S n) (hM : MCC (S 0) H) : SPEC 151 [(2, 0)] H (fun r H' => r = none ∧ CQ H H' S n ∧ TCf (S 0) H' ∧ MCf (S 0) H') := by
  intro E n' res h
  obtain ⟨x1, x2, ld, x4, h8, x6, x7⟩ := id hR
  have ok0 := RC_sz hR
  have os := ok0.2.2.1
  unfold OKS at os
  obtain ⟨r, H1, g, rfl, m1, m2, m3, m4, m5, m6⟩ := sp_X11_matchAll (S 0) H ok0.1 ok0.2.1 os.1 os.2.1 x1 hM E n' res h
  exact ⟨_, H1, g, rfl, CQ_AF hR m6 m1 (mcc_of m2 m3 m4), m2, m3⟩
theorem sp_c_gaps (k : Int) (S : Int → Int → Int) (n : Int) (H : PH) (hR : RC H S n) (hM : MCC (S 0) H) (hk : 0 ≤ k ∧ k < S 0 2) : SPEC 15 [(2, 1), (0, k)] H (fun r H' => r = some (2, H' 47 k + 1) ∧ CQ H H' S n ∧ H' (H' 47 k) 4 = S 0 0 ∧ (∀ x, 0 ≤ x → x < S 0 0 → H' (H' 47 k + 1) x = lapA (S 0) k x) ∧ 93 ≤ H' 47 k ∧ ∀ c, 213 ≤ c → c ≤ 467 → H' c = H c) := by
  intro E n' res h
  obtain ⟨x1, x2, ld, x4, h8, x6, x7⟩ := id hR
  have ok0 := RC_sz hR
  have a2 := ok0.1.2.2.1
  have kq := ld.1.1 k hk.1 (by omega)
  have kin := KL_in kq
  have kz := KZ (Or.inr kq)
  obtain ⟨r, H1, g, rfl, g1, g2, g3⟩ := sp_X1_gapsOf k (S 0) H ok0.1 hk x1.1 kq x1.2.1 E n' res h
  have e47 : H1 47 = H 47 := g1.1 47 (by decide) (by decide) (by omega) (by omega)
  have ci1 := CI_gaps ok0.1 x1 hk g1 g2 g3
  have tf := TF_g ⟨hk.1, by rw [← x1.1.1.2.2.1]; exact hk.2⟩ rfl kq g1
  rw [← e47] at g2 g3
  have cs : ∀ c, 213 ≤ c → c ≤ 467 → H1 c = H c := fun c c0 c1 => g1.1 c (by omega) (by omega) (by omega) (by omega)
  refine ⟨_, H1, g, by rw [e47], CQ_AF hR (AF_TF tf) ci1 (MCC_fr (fun c c0 c1 => cs c (by omega) (by omega)) hM), g2, g3, by rw [e47]; exact kin.1, cs⟩
def rdQ (A : Int → Int) (k : Int) : Int := if 0 ≤ k ∧ k < A 2 then rdL A k else -1
def apQ (A : Int → Int) (k b : Int) : Int := if (0 ≤ k ∧ k < A 2) ∧ (0 ≤ b ∧ b < A 0) then lapA A k b else -1
def lsQ (A : Int → Int) (k : Int) : Int := if 0 ≤ k ∧ k < A 2 then (if 0 ≤ rdM (lapA A k) (A 0) 20 then lapA A k (rdM (lapA A k) (A 0) 20) else -1) else -1
def hpQ (A : Int → Int) (h w : Int) : Int := if (0 ≤ h ∧ h < (tlZ A).1) ∧ (0 ≤ w ∧ w ≤ 4) then (if w = 0 then (tlZ A).2.1 h else if w = 1 then (tlZ A).2.2.1 (12 + h) else if w = 2 then (tlZ A).2.2.2 (12 + h) else if w = 3 then agdA A (12 + h) else (mtZ A).1 (12 + h)) else -1
def tyQ (A : Int → Int) (b w : Int) : Int := if (0 ≤ b ∧ b < A 0) ∧ (0 ≤ w ∧ w ≤ 8) then (if w = 0 then (tlZ A).2.2.1 b else if w = 1 then (tlZ A).2.2.2 b else if w = 2 then agdA A b else if w = 3 then dueA A b else if w = 4 then wntA A b else if w = 5 then offA A b else if w = 6 then (mtZ A).2.1 b else if w = 7 then (mtZ A).1 b else mtoA A b) else -1
def brQ (A : Int → Int) (s b : Int) : Int := if (0 ≤ b ∧ b < A 0) ∧ ((0 ≤ s ∧ s < A 0) ∨ (12 ≤ s ∧ s < 12 + (tlZ A).1)) then (mtZ A).2.2.1 (12 * s + b) else -1
def maQ (A : Int → Int) (w : Int) : Int := if 0 ≤ w ∧ w ≤ 1 then (if w = 0 then (mtZ A).2.2.2.1 else (mtZ A).2.2.2.2) else -1
def shQ (A : Int → Int) (b : Int) : Int := if 0 ≤ b ∧ b < A 0 then shdA A b else -1
theorem rbF_lt {f : Int → Int} : ∀ (n : Nat) (b : Int) (s : rS), s.1 < b → (0 ≤ b) → (rbF f n b s).1 < b + n
  | 0, b, s, h, _ => by
    show s.1 < b + 0
    omega
  | n + 1, b, s, h, h0 => by
    unfold rbF
    have := rbF_lt (f := f) n (b + 1) (rbS f b s) (by
      show (if f b < s.2 then b else if f b = s.2 ∧ ¬ s.1 = -3 then -2 else s.1) < b + 1
      split
      · omega
      · split <;> omega) (by omega)
    omega
theorem RC_12 {H : PH} {S : Int → Int → Int} {n : Int} (h : RC H S n) : S 0 0 = H 1 2 ∧ S 0 2 = H 1 4 ∧ zw (H 1 2 - 1) = H 1 2 - 1 ∧ zw (H 1 4 - 1) = H 1 4 - 1 ∧ (0 ≤ S 0 0 ∧ S 0 0 ≤ 12) ∧ (0 ≤ S 0 2 ∧ S 0 2 ≤ 60) := by
  have ok := RC_sz h
  have a0 := ok.1.1
  have a2 := ok.1.2.2.1
  have e0 := h.1.1.1.1
  have e2 := h.1.1.1.2.2.1
  exact ⟨e0, e2, zw_lit (by omega) (by omega), zw_lit (by omega) (by omega), a0, a2⟩
set_option maxRecDepth 100000 in
theorem sp_c_read (k : Int) (S : Int → Int → Int) (n : Int) (H : PH) (hR : RC H S n) (hM : MCC (S 0) H) : SPEC 114 [(2, 0), (0, k)] H (fun r H' => r = some (0, rdQ (S 0) k) ∧ CQ H H' S n) := by
  intro E n' res h
  obtain ⟨e0, e2, z0, z2, a0, a2⟩ := RC_12 hR
  by_cases qk : 0 ≤ k ∧ k < S 0 2
  · have k0 := qk.1
    have k1 : k ≤ H 1 4 - 1 := by omega
    have k2 : ¬ k < 0 := by omega
    have k3 : ¬ H 1 4 - 1 < k := by omega
    have h := call_runP 2 vm_X11_read h
    have h := xw_top (hd := []) 4 xD6_ok xc_X11_read xa_X11_read (t := 0) rfl h
    simp (maxDischargeDepth := 12) -implicitDefEqProofs [vb_X11_read_0, vb_X11_read_10, xI_0, xI_1, xI_7, xI_38, xI_49, xI_51, xI_61, xI_62, xw_X11_read_0, xw_X11_read_10, zw_lit, xB_c, xB_s, xB_n, i1_c, j2_c, k1_c, jJ_e, xlg, xls, xla, xpd, ppush, zw_m1, zw_m2, zw_m3, gf_9_2, gf_11_2, tg_11_2, tg_9_2, gv_215_2, gv_0_2, xD1, xD2, xD3, xD4, xD5, xD6, xb1_0, z2, k0, k1, k2, k3] at h
    obtain ⟨r, H1, ⟨rfl, cq, t⟩, g⟩ := xc_use h (sp_c_refresh S n H hR hM)
    have e := t.2.2.1 k k0 qk.2
    simp (maxDischargeDepth := 12) -implicitDefEqProofs [vb_X11_read_0, vb_X11_read_10, xI_0, xI_1, xI_7, xI_38, xI_49, xI_51, xI_61, xI_62, xw_X11_read_0, xw_X11_read_10, zw_lit, xB_c, xB_s, xB_n, i1_c, j2_c, k1_c, jJ_e, xlg, xls, xla, xpd, ppush, zw_m1, zw_m2, zw_m3, gf_9_2, gf_11_2, tg_11_2, tg_9_2, gv_215_2, gv_0_2, xD1, xD2, xD3, xD4, xD5, xD6, xb1_0, e] at g
    exact ⟨_, _, g, by unfold rdQ; rw [if_pos qk], cq⟩
  · by_cases k0 : 0 ≤ k
    · have k1 : ¬ k ≤ H 1 4 - 1 := by omega
      have k2 : ¬ k < 0 := by omega
      have k3 : H 1 4 - 1 < k := by omega
      have h := call_runP 2 vm_X11_read h
      have h := xw_top (hd := []) 4 xD6_ok xc_X11_read xa_X11_read (t := 0) rfl h
      simp (maxDischargeDepth := 12) -implicitDefEqProofs [vb_X11_read_0, vb_X11_read_10, xI_0, xI_1, xI_7, xI_38, xI_49, xI_51, xI_61, xI_62, xw_X11_read_0, xw_X11_read_10, zw_lit, xB_c, xB_s, xB_n, i1_c, j2_c, k1_c, jJ_e, xlg, xls, xla, xpd, ppush, zw_m1, zw_m2, zw_m3, gf_9_2, gf_11_2, tg_11_2, tg_9_2, gv_215_2, gv_0_2, xD1, xD2, xD3, xD4, xD5, xD6, xb1_0, z0, z2, k0, k1, k2, k3] at h
      exact ⟨_, _, h, by unfold rdQ; rw [if_neg (by omega)], CQ_refl hR hM⟩
    · have k2 : k < 0 := by omega
      have h := call_runP 2 vm_X11_read h
      have h := xw_top (hd := []) 4 xD6_ok xc_X11_read xa_X11_read (t := 0) rfl h
      simp (maxDischargeDepth := 12) -implicitDefEqProofs [vb_X11_read_0, vb_X11_read_10, xI_0, xI_1, xI_7, xI_38, xI_49, xI_51, xI_61, xI_62, xw_X11_read_0, xw_X11_read_10, zw_lit, xB_c, xB_s, xB_n, i1_c, j2_c, k1_c, jJ_e, xlg, xls, xla, xpd, ppush, zw_m1, zw_m2, zw_m3, gf_9_2, gf_11_2, tg_11_2, tg_9_2, gv_215_2, gv_0_2, xD1, xD2, xD3, xD4, xD5, xD6, xb1_0, z0, z2, k0, k2] at h
      exact ⟨_, _, h, by unfold rdQ; rw [if_neg (by omega)], CQ_refl hR hM⟩
set_option maxRecDepth 100000 in
theorem sp_c_apart (k b : Int) (S : Int → Int → Int) (n : Int) (H : PH) (hR : RC H S n) (hM : MCC (S 0) H) : SPEC 113 [(2, 0), (0, k), (0, b)] H (fun r H' => r = some (0, apQ (S 0) k b) ∧ CQ H H' S n) := by
  intro E n' res h
  obtain ⟨e0, e2, z0, z2, a0, a2⟩ := RC_12 hR
  by_cases qk : 0 ≤ k ∧ k < S 0 2
  · have k0 := qk.1
    have k1 : k ≤ H 1 4 - 1 := by omega
    have k2 : ¬ k < 0 := by omega
    have k3 : ¬ H 1 4 - 1 < k := by omega
    by_cases qb : 0 ≤ b ∧ b < S 0 0
    · have b0 := qb.1
      have b1 : b ≤ H 1 2 - 1 := by omega
      have b2 : ¬ b < 0 := by omega
      have b3 : ¬ H 1 2 - 1 < b := by omega
      have h := call_runP 3 vm_X11_apart h
      have h := xw_top (hd := []) 5 xD6_ok xc_X11_apart xa_X11_apart (t := 0) rfl h
      simp (maxDischargeDepth := 12) -implicitDefEqProofs [vb_X11_apart_0, vb_X11_apart_16, vb_X11_apart_18, xI_0, xI_1, xI_7, xI_37, xI_38, xI_49, xI_51, xI_61, xI_62, xw_X11_apart_0, xw_X11_apart_16, xw_X11_apart_18, zw_lit, xB_c, xB_s, xB_n, i1_c, j2_c, k1_c, jJ_e, xlg, xls, xla, xpd, ppush, zw_m1, zw_m2, zw_m3, gf_11_0, tg_11_0, gv_0_0, xD1, xD2, xD3, xD4, xD5, xD6, xb1_0, z0, z2, k0, k1, k2, k3, b0, b1, b2, b3] at h
      obtain ⟨r, H1, ⟨rfl, cq, g4, gg, gb, _⟩, g⟩ := xc_use h (sp_c_gaps k S n H hR hM qk)
      have i0 : 0 ≤ H1 47 k + 1 := by omega
      have e := gg b b0 qb.2
      simp (maxDischargeDepth := 12) -implicitDefEqProofs [vb_X11_apart_0, vb_X11_apart_16, vb_X11_apart_18, xI_0, xI_1, xI_7, xI_37, xI_38, xI_49, xI_51, xI_61, xI_62, xw_X11_apart_0, xw_X11_apart_16, xw_X11_apart_18, zw_lit, xB_c, xB_s, xB_n, i1_c, j2_c, k1_c, jJ_e, xlg, xls, xla, xpd, ppush, zw_m1, zw_m2, zw_m3, gf_11_0, tg_11_0, gv_0_0, xD1, xD2, xD3, xD4, xD5, xD6, xb1_0, i0, e] at g
      exact ⟨_, _, g, by unfold apQ; rw [if_pos ⟨qk, qb⟩], cq⟩
    · by_cases b0 : 0 ≤ b
      · have b1 : ¬ b ≤ H 1 2 - 1 := by omega
        have b2 : ¬ b < 0 := by omega
        have b3 : H 1 2 - 1 < b := by omega
        have h := call_runP 3 vm_X11_apart h
        have h := xw_top (hd := []) 5 xD6_ok xc_X11_apart xa_X11_apart (t := 0) rfl h
        simp (maxDischargeDepth := 12) -implicitDefEqProofs [vb_X11_apart_0, vb_X11_apart_16, vb_X11_apart_18, xI_0, xI_1, xI_7, xI_37, xI_38, xI_49, xI_51, xI_61, xI_62, xw_X11_apart_0, xw_X11_apart_16, xw_X11_apart_18, zw_lit, xB_c, xB_s, xB_n, i1_c, j2_c, k1_c, jJ_e, xlg, xls, xla, xpd, ppush, zw_m1, zw_m2, zw_m3, gf_11_0, tg_11_0, gv_0_0, xD1, xD2, xD3, xD4, xD5, xD6, xb1_0, z0, z2, k0, k1, k2, k3, b0, b1, b2, b3] at h
        exact ⟨_, _, h, by unfold apQ; rw [if_neg (by omega)], CQ_refl hR hM⟩
      · have b2 : b < 0 := by omega
        have h := call_runP 3 vm_X11_apart h
        have h := xw_top (hd := []) 5 xD6_ok xc_X11_apart xa_X11_apart (t := 0) rfl h
        simp (maxDischargeDepth := 12) -implicitDefEqProofs [vb_X11_apart_0, vb_X11_apart_16, vb_X11_apart_18, xI_0, xI_1, xI_7, xI_37, xI_38, xI_49, xI_51, xI_61, xI_62, xw_X11_apart_0, xw_X11_apart_16, xw_X11_apart_18, zw_lit, xB_c, xB_s, xB_n, i1_c, j2_c, k1_c, jJ_e, xlg, xls, xla, xpd, ppush, zw_m1, zw_m2, zw_m3, gf_11_0, tg_11_0, gv_0_0, xD1, xD2, xD3, xD4, xD5, xD6, xb1_0, z0, z2, k0, k1, k2, k3, b0, b2] at h
        exact ⟨_, _, h, by unfold apQ; rw [if_neg (by omega)], CQ_refl hR hM⟩
  · by_cases k0 : 0 ≤ k
    · have k1 : ¬ k ≤ H 1 4 - 1 := by omega
      have k2 : ¬ k < 0 := by omega
      have k3 : H 1 4 - 1 < k := by omega
      have h := call_runP 3 vm_X11_apart h
      have h := xw_top (hd := []) 5 xD6_ok xc_X11_apart xa_X11_apart (t := 0) rfl h
      simp (maxDischargeDepth := 12) -implicitDefEqProofs [vb_X11_apart_0, vb_X11_apart_16, vb_X11_apart_18, xI_0, xI_1, xI_7, xI_37, xI_38, xI_49, xI_51, xI_61, xI_62, xw_X11_apart_0, xw_X11_apart_16, xw_X11_apart_18, zw_lit, xB_c, xB_s, xB_n, i1_c, j2_c, k1_c, jJ_e, xlg, xls, xla, xpd, ppush, zw_m1, zw_m2, zw_m3, gf_11_0, tg_11_0, gv_0_0, xD1, xD2, xD3, xD4, xD5, xD6, xb1_0, z0, z2, k0, k1, k2, k3] at h
      exact ⟨_, _, h, by unfold apQ; rw [if_neg (by omega)], CQ_refl hR hM⟩
    · have k2 : k < 0 := by omega
      have h := call_runP 3 vm_X11_apart h
      have h := xw_top (hd := []) 5 xD6_ok xc_X11_apart xa_X11_apart (t := 0) rfl h
      simp (maxDischargeDepth := 12) -implicitDefEqProofs [vb_X11_apart_0, vb_X11_apart_16, vb_X11_apart_18, xI_0, xI_1, xI_7, xI_37, xI_38, xI_49, xI_51, xI_61, xI_62, xw_X11_apart_0, xw_X11_apart_16, xw_X11_apart_18, zw_lit, xB_c, xB_s, xB_n, i1_c, j2_c, k1_c, jJ_e, xlg, xls, xla, xpd, ppush, zw_m1, zw_m2, zw_m3, gf_11_0, tg_11_0, gv_0_0, xD1, xD2, xD3, xD4, xD5, xD6, xb1_0, z0, z2, k0, k2] at h
      exact ⟨_, _, h, by unfold apQ; rw [if_neg (by omega)], CQ_refl hR hM⟩
set_option maxRecDepth 100000 in
theorem sp_c_least (k : Int) (S : Int → Int → Int) (n : Int) (H : PH) (hR : RC H S n) (hM : MCC (S 0) H) : SPEC 115 [(2, 0), (0, k)] H (fun r H' => r = some (0, lsQ (S 0) k) ∧ CQ H H' S n) := by
  intro E n' res h
  obtain ⟨e0, e2, z0, z2, a0, a2⟩ := RC_12 hR
  by_cases qk : 0 ≤ k ∧ k < S 0 2
  · have k0 := qk.1
    have k1 : k ≤ H 1 4 - 1 := by omega
    have k2 : ¬ k < 0 := by omega
    have k3 : ¬ H 1 4 - 1 < k := by omega
    have h := call_runP 4 vm_X11_least h
    have h := xw_top (hd := []) 6 xD6_ok xc_X11_least xa_X11_least (t := 0) rfl h
    simp (maxDischargeDepth := 12) -implicitDefEqProofs [vb_X11_least_0, vb_X11_least_10, vb_X11_least_40, vb_X11_least_41, xI_0, xI_1, xI_3, xI_4, xI_7, xI_8, xI_36, xI_38, xI_39, xI_49, xI_51, xI_61, xI_62, xw_X11_least_0, xw_X11_least_10, xw_X11_least_40, xw_X11_least_41, zw_lit, xB_c, xB_s, xB_n, i1_c, j2_c, k1_c, jJ_e, xlg, xls, xla, xpd, ppush, zw_m1, zw_m2, zw_m3, gf_11_0, tg_11_0, gv_0_0, xD1, xD2, xD3, xD4, xD5, xD6, xb1_0, z2, k0, k1, k2, k3] at h
    obtain ⟨r, H1, ⟨rfl, cq, g4, gg, gb, _⟩, g⟩ := xc_use h (sp_c_gaps k S n H hR hM qk)
    have i0 : 0 ≤ H1 47 k + 1 := by omega
    have e12 : H1 1 2 = S 0 0 := cq.1.1.1.1.1.symm
    simp (maxDischargeDepth := 12) -implicitDefEqProofs [vb_X11_least_0, vb_X11_least_10, vb_X11_least_40, vb_X11_least_41, xI_0, xI_1, xI_3, xI_4, xI_7, xI_8, xI_36, xI_38, xI_39, xI_49, xI_51, xI_61, xI_62, xw_X11_least_0, xw_X11_least_10, xw_X11_least_40, xw_X11_least_41, zw_lit, xB_c, xB_s, xB_n, i1_c, j2_c, k1_c, jJ_e, xlg, xls, xla, xpd, ppush, zw_m1, zw_m2, zw_m3, gf_11_0, tg_11_0, gv_0_0, xD1, xD2, xD3, xD4, xD5, xD6, xb1_0] at g
    obtain ⟨r, H2, ⟨rfl, rfl⟩, g2⟩ := xc_use g (sp_X1_readBy (H1 47 k + 1) 20 H1 i0 (by omega) (by decide))
    have er : rdM (H2 (H2 47 k + 1)) (H2 1 2) 20 = rdM (lapA (S 0) k) (S 0 0) 20 := by
      rw [e12]
      unfold rdM
      rw [rbF_eq _ _ _ (fun x x0 x1 => gg x x0 (by omega))]
    by_cases c : 0 ≤ rdM (lapA (S 0) k) (S 0 0) 20
    · have c' : ¬ rdM (lapA (S 0) k) (S 0 0) 20 < 0 := by omega
      have hi : rdM (lapA (S 0) k) (S 0 0) 20 < S 0 0 := by
        have := rbF_lt (f := lapA (S 0) k) (S 0 0).toNat 0 (-3, 20 + 1) (by decide) (by decide)
        unfold rdM
        omega
      have e := gg _ c hi
      simp (maxDischargeDepth := 12) -implicitDefEqProofs [vb_X11_least_0, vb_X11_least_10, vb_X11_least_40, vb_X11_least_41, xI_0, xI_1, xI_3, xI_4, xI_7, xI_8, xI_36, xI_38, xI_39, xI_49, xI_51, xI_61, xI_62, xw_X11_least_0, xw_X11_least_10, xw_X11_least_40, xw_X11_least_41, zw_lit, xB_c, xB_s, xB_n, i1_c, j2_c, k1_c, jJ_e, xlg, xls, xla, xpd, ppush, zw_m1, zw_m2, zw_m3, gf_11_0, tg_11_0, gv_0_0, xD1, xD2, xD3, xD4, xD5, xD6, xb1_0, er, c, c', i0, e] at g2
      exact ⟨_, _, g2, by unfold lsQ; rw [if_pos qk, if_pos c], cq⟩
    · have c' : rdM (lapA (S 0) k) (S 0 0) 20 < 0 := by omega
      simp (maxDischargeDepth := 12) -implicitDefEqProofs [vb_X11_least_0, vb_X11_least_10, vb_X11_least_40, vb_X11_least_41, xI_0, xI_1, xI_3, xI_4, xI_7, xI_8, xI_36, xI_38, xI_39, xI_49, xI_51, xI_61, xI_62, xw_X11_least_0, xw_X11_least_10, xw_X11_least_40, xw_X11_least_41, zw_lit, xB_c, xB_s, xB_n, i1_c, j2_c, k1_c, jJ_e, xlg, xls, xla, xpd, ppush, zw_m1, zw_m2, zw_m3, gf_11_0, tg_11_0, gv_0_0, xD1, xD2, xD3, xD4, xD5, xD6, xb1_0, er, c, c'] at g2
      exact ⟨_, _, g2, by unfold lsQ; rw [if_pos qk, if_neg c], cq⟩
  · by_cases k0 : 0 ≤ k
    · have k1 : ¬ k ≤ H 1 4 - 1 := by omega
      have k2 : ¬ k < 0 := by omega
      have k3 : H 1 4 - 1 < k := by omega
      have h := call_runP 4 vm_X11_least h
      have h := xw_top (hd := []) 6 xD6_ok xc_X11_least xa_X11_least (t := 0) rfl h
      simp (maxDischargeDepth := 12) -implicitDefEqProofs [vb_X11_least_0, vb_X11_least_10, vb_X11_least_40, vb_X11_least_41, xI_0, xI_1, xI_3, xI_4, xI_7, xI_8, xI_36, xI_38, xI_39, xI_49, xI_51, xI_61, xI_62, xw_X11_least_0, xw_X11_least_10, xw_X11_least_40, xw_X11_least_41, zw_lit, xB_c, xB_s, xB_n, i1_c, j2_c, k1_c, jJ_e, xlg, xls, xla, xpd, ppush, zw_m1, zw_m2, zw_m3, gf_11_0, tg_11_0, gv_0_0, xD1, xD2, xD3, xD4, xD5, xD6, xb1_0, z0, z2, k0, k1, k2, k3] at h
      exact ⟨_, _, h, by unfold lsQ; rw [if_neg (by omega)], CQ_refl hR hM⟩
    · have k2 : k < 0 := by omega
      have h := call_runP 4 vm_X11_least h
      have h := xw_top (hd := []) 6 xD6_ok xc_X11_least xa_X11_least (t := 0) rfl h
      simp (maxDischargeDepth := 12) -implicitDefEqProofs [vb_X11_least_0, vb_X11_least_10, vb_X11_least_40, vb_X11_least_41, xI_0, xI_1, xI_3, xI_4, xI_7, xI_8, xI_36, xI_38, xI_39, xI_49, xI_51, xI_61, xI_62, xw_X11_least_0, xw_X11_least_10, xw_X11_least_40, xw_X11_least_41, zw_lit, xB_c, xB_s, xB_n, i1_c, j2_c, k1_c, jJ_e, xlg, xls, xla, xpd, ppush, zw_m1, zw_m2, zw_m3, gf_11_0, tg_11_0, gv_0_0, xD1, xD2, xD3, xD4, xD5, xD6, xb1_0, z0, z2, k0, k2] at h
      exact ⟨_, _, h, by unfold lsQ; rw [if_neg (by omega)], CQ_refl hR hM⟩
set_option maxRecDepth 100000 in
theorem sp_c_shed (b : Int) (S : Int → Int → Int) (n : Int) (H : PH) (hR : RC H S n) (hM : MCC (S 0) H) : SPEC 134 [(2, 0), (0, b)] H (fun r H' => r = some (0, shQ (S 0) b) ∧ CQ H H' S n) := by
  intro E n' res h
  obtain ⟨e0, e2, z0, z2, a0, a2⟩ := RC_12 hR
  by_cases qb : 0 ≤ b ∧ b < S 0 0
  · have b0 := qb.1
    have b1 : b ≤ H 1 2 - 1 := by omega
    have b2 : ¬ b < 0 := by omega
    have b3 : ¬ H 1 2 - 1 < b := by omega
    have h := call_runP 2 vm_X11_shed h
    have h := xw_top (hd := []) 4 xD6_ok xc_X11_shed xa_X11_shed (t := 0) rfl h
    simp (maxDischargeDepth := 12) -implicitDefEqProofs [vb_X11_shed_0, vb_X11_shed_10, xI_0, xI_1, xI_7, xI_38, xI_61, xI_62, xw_X11_shed_0, xw_X11_shed_10, zw_lit, xB_c, xB_s, xB_n, i1_c, j2_c, k1_c, jJ_e, xlg, xls, xla, xpd, ppush, zw_m1, zw_m2, zw_m3, xD1, xD2, xD3, xD4, xD5, xD6, xb1_0, z0, b0, b1, b2, b3] at h
    obtain ⟨r, H1, ⟨rfl, cq, t, m⟩, g⟩ := xc_use h (sp_c_match S n H hR hM)
    have os := (RC_sz hR).2.2.1
    unfold OKS at os
    obtain ⟨r, H2, ⟨rfl, rfl⟩, g2⟩ := xc_use g (sp_X11_balesInShed (S 0) b H1 (RC_sz hR).1 os.2.1 cq.1.1 t m qb)
    exact ⟨_, _, g2, by unfold shQ; rw [if_pos qb], cq⟩
  · by_cases b0 : 0 ≤ b
    · have b1 : ¬ b ≤ H 1 2 - 1 := by omega
      have b2 : ¬ b < 0 := by omega
      have b3 : H 1 2 - 1 < b := by omega
      have h := call_runP 2 vm_X11_shed h
      have h := xw_top (hd := []) 4 xD6_ok xc_X11_shed xa_X11_shed (t := 0) rfl h
      simp (maxDischargeDepth := 12) -implicitDefEqProofs [vb_X11_shed_0, vb_X11_shed_10, xI_0, xI_1, xI_7, xI_38, xI_61, xI_62, xw_X11_shed_0, xw_X11_shed_10, zw_lit, xB_c, xB_s, xB_n, i1_c, j2_c, k1_c, jJ_e, xlg, xls, xla, xpd, ppush, zw_m1, zw_m2, zw_m3, xD1, xD2, xD3, xD4, xD5, xD6, xb1_0, z0, z2, b0, b1, b2, b3] at h
      exact ⟨_, _, h, by unfold shQ; rw [if_neg (by omega)], CQ_refl hR hM⟩
    · have b2 : b < 0 := by omega
      have h := call_runP 2 vm_X11_shed h
      have h := xw_top (hd := []) 4 xD6_ok xc_X11_shed xa_X11_shed (t := 0) rfl h
      simp (maxDischargeDepth := 12) -implicitDefEqProofs [vb_X11_shed_0, vb_X11_shed_10, xI_0, xI_1, xI_7, xI_38, xI_61, xI_62, xw_X11_shed_0, xw_X11_shed_10, zw_lit, xB_c, xB_s, xB_n, i1_c, j2_c, k1_c, jJ_e, xlg, xls, xla, xpd, ppush, zw_m1, zw_m2, zw_m3, xD1, xD2, xD3, xD4, xD5, xD6, xb1_0, z0, z2, b0, b2] at h
      exact ⟨_, _, h, by unfold shQ; rw [if_neg (by omega)], CQ_refl hR hM⟩
set_option maxRecDepth 100000 in
theorem sp_c_matched (w : Int) (S : Int → Int → Int) (n : Int) (H : PH) (hR : RC H S n) (hM : MCC (S 0) H) : SPEC 119 [(2, 0), (0, w)] H (fun r H' => r = some (0, maQ (S 0) w) ∧ CQ H H' S n) := by
  intro E n' res h
  by_cases w0 : w = 0
  · have h := call_runP 2 vm_X11_matched h
    have h := xw_top (hd := []) 6 xD6_ok xc_X11_matched xa_X11_matched (t := 0) rfl h
    simp (maxDischargeDepth := 12) -implicitDefEqProofs [vb_X11_matched_0, vb_X11_matched_11, vb_X11_matched_29, vb_X11_matched_36, xI_0, xI_1, xI_7, xI_36, xI_38, xI_49, xI_60, xI_61, xI_62, xw_X11_matched_0, xw_X11_matched_11, xw_X11_matched_29, xw_X11_matched_36, zw_lit, xB_c, xB_s, xB_n, i1_c, j2_c, k1_c, jJ_e, xlg, xls, xla, xpd, ppush, zw_m1, zw_m2, zw_m3, gf_6_10, gf_6_11, gf_11_3, tg_11_3, tg_6_10, tg_6_11, gv_221_10, gv_221_11, gv_0_3, xD1, xD2, xD3, xD4, xD5, xD6, xb1_0, w0] at h
    obtain ⟨r, H1, ⟨rfl, cq, t, m⟩, g⟩ := xc_use h (sp_c_match S n H hR hM)
    have e := m.2.2.2.2.2.2.1
    simp (maxDischargeDepth := 12) -implicitDefEqProofs [vb_X11_matched_0, vb_X11_matched_11, vb_X11_matched_29, vb_X11_matched_36, xI_0, xI_1, xI_7, xI_36, xI_38, xI_49, xI_60, xI_61, xI_62, xw_X11_matched_0, xw_X11_matched_11, xw_X11_matched_29, xw_X11_matched_36, zw_lit, xB_c, xB_s, xB_n, i1_c, j2_c, k1_c, jJ_e, xlg, xls, xla, xpd, ppush, zw_m1, zw_m2, zw_m3, gf_6_10, gf_6_11, gf_11_3, tg_11_3, tg_6_10, tg_6_11, gv_221_10, gv_221_11, gv_0_3, xD1, xD2, xD3, xD4, xD5, xD6, xb1_0, e] at g
    exact ⟨_, _, g, by unfold maQ; rw [if_pos (by omega), if_pos w0], cq⟩
  · by_cases w1 : w = 1
    · have h := call_runP 2 vm_X11_matched h
      have h := xw_top (hd := []) 6 xD6_ok xc_X11_matched xa_X11_matched (t := 0) rfl h
      simp (maxDischargeDepth := 12) -implicitDefEqProofs [vb_X11_matched_0, vb_X11_matched_11, vb_X11_matched_29, vb_X11_matched_36, xI_0, xI_1, xI_7, xI_36, xI_38, xI_49, xI_60, xI_61, xI_62, xw_X11_matched_0, xw_X11_matched_11, xw_X11_matched_29, xw_X11_matched_36, zw_lit, xB_c, xB_s, xB_n, i1_c, j2_c, k1_c, jJ_e, xlg, xls, xla, xpd, ppush, zw_m1, zw_m2, zw_m3, gf_6_10, gf_6_11, gf_11_3, tg_11_3, tg_6_10, tg_6_11, gv_221_10, gv_221_11, gv_0_3, xD1, xD2, xD3, xD4, xD5, xD6, xb1_0, w1] at h
      obtain ⟨r, H1, ⟨rfl, cq, t, m⟩, g⟩ := xc_use h (sp_c_match S n H hR hM)
      have e := m.2.2.2.2.2.2.2
      simp (maxDischargeDepth := 12) -implicitDefEqProofs [vb_X11_matched_0, vb_X11_matched_11, vb_X11_matched_29, vb_X11_matched_36, xI_0, xI_1, xI_7, xI_36, xI_38, xI_49, xI_60, xI_61, xI_62, xw_X11_matched_0, xw_X11_matched_11, xw_X11_matched_29, xw_X11_matched_36, zw_lit, xB_c, xB_s, xB_n, i1_c, j2_c, k1_c, jJ_e, xlg, xls, xla, xpd, ppush, zw_m1, zw_m2, zw_m3, gf_6_10, gf_6_11, gf_11_3, tg_11_3, tg_6_10, tg_6_11, gv_221_10, gv_221_11, gv_0_3, xD1, xD2, xD3, xD4, xD5, xD6, xb1_0, e] at g
      exact ⟨_, _, g, by unfold maQ; rw [if_pos (by omega), if_neg w0], cq⟩
    · by_cases p : 0 ≤ w
      · have p1 : ¬ w ≤ 1 := by omega
        have p2 : ¬ w < 0 := by omega
        have p3 : 1 < w := by omega
        have h := call_runP 2 vm_X11_matched h
        have h := xw_top (hd := []) 6 xD6_ok xc_X11_matched xa_X11_matched (t := 0) rfl h
        simp (maxDischargeDepth := 12) -implicitDefEqProofs [vb_X11_matched_0, vb_X11_matched_11, vb_X11_matched_29, vb_X11_matched_36, xI_0, xI_1, xI_7, xI_36, xI_38, xI_49, xI_60, xI_61, xI_62, xw_X11_matched_0, xw_X11_matched_11, xw_X11_matched_29, xw_X11_matched_36, zw_lit, xB_c, xB_s, xB_n, i1_c, j2_c, k1_c, jJ_e, xlg, xls, xla, xpd, ppush, zw_m1, zw_m2, zw_m3, gf_6_10, gf_6_11, gf_11_3, tg_11_3, tg_6_10, tg_6_11, gv_221_10, gv_221_11, gv_0_3, xD1, xD2, xD3, xD4, xD5, xD6, xb1_0, p, p1, p2, p3] at h
        exact ⟨_, _, h, by unfold maQ; rw [if_neg (by omega)], CQ_refl hR hM⟩
      · have p2 : w < 0 := by omega
        have h := call_runP 2 vm_X11_matched h
        have h := xw_top (hd := []) 6 xD6_ok xc_X11_matched xa_X11_matched (t := 0) rfl h
        simp (maxDischargeDepth := 12) -implicitDefEqProofs [vb_X11_matched_0, vb_X11_matched_11, vb_X11_matched_29, vb_X11_matched_36, xI_0, xI_1, xI_7, xI_36, xI_38, xI_49, xI_60, xI_61, xI_62, xw_X11_matched_0, xw_X11_matched_11, xw_X11_matched_29, xw_X11_matched_36, zw_lit, xB_c, xB_s, xB_n, i1_c, j2_c, k1_c, jJ_e, xlg, xls, xla, xpd, ppush, zw_m1, zw_m2, zw_m3, gf_6_10, gf_6_11, gf_11_3, tg_11_3, tg_6_10, tg_6_11, gv_221_10, gv_221_11, gv_0_3, xD1, xD2, xD3, xD4, xD5, xD6, xb1_0, p, p2] at h
        exact ⟨_, _, h, by unfold maQ; rw [if_neg (by omega)], CQ_refl hR hM⟩
set_option maxRecDepth 100000 in
theorem sp_c_heap (u w : Int) (S : Int → Int → Int) (n : Int) (H : PH) (hR : RC H S n) (hM : MCC (S 0) H) : SPEC 116 [(2, 0), (0, u), (0, w)] H (fun r H' => r = some (0, hpQ (S 0) u w) ∧ CQ H H' S n) := by
  intro E n' res h
  have h := call_runP 4 vm_X11_heap h
  have h := xw_top (hd := []) 10 xD6_ok xc_X11_heap xa_X11_heap (t := 0) rfl h
  simp (maxDischargeDepth := 12) -implicitDefEqProofs [vb_X11_heap_0, vb_X11_heap_23, vb_X11_heap_64, vb_X11_heap_74, vb_X11_heap_84, vb_X11_heap_94, vb_X11_heap_104, vb_X11_heap_114, xI_0, xI_1, xI_3, xI_7, xI_8, xI_14, xI_15, xI_38, xI_49, xI_51, xI_60, xI_61, xI_62, xI_106, xw_X11_heap_0, xw_X11_heap_23, xw_X11_heap_64, xw_X11_heap_74, xw_X11_heap_84, xw_X11_heap_94, xw_X11_heap_104, xw_X11_heap_114, zw_lit, xB_c, xB_s, xB_n, i1_c, j2_c, k1_c, jJ_e, xlg, xls, xla, xpd, ppush, zw_m1, zw_m2, zw_m3, gf_6_7, gf_9_3, gf_9_4, gf_9_5, gf_9_6, gf_9_7, gf_11_2, gf_11_3, tg_11_2, tg_11_3, tg_6_7, tg_9_3, tg_9_4, tg_9_5, tg_9_6, tg_9_7, gv_221_7, gv_215_3, gv_215_4, gv_215_5, gv_215_6, gv_215_7, gv_0_2, gv_0_3, xD1, xD2, xD3, xD4, xD5, xD6, xb1_0] at h
  obtain ⟨r, H1, ⟨rfl, cq, t, m⟩, g⟩ := xc_use h (sp_c_match S n H hR hM)
  have e4 : H1 215 4 = (tlZ (S 0)).1 := t.1.1
  have b60 := t.2.1
  have z1 : zw ((tlZ (S 0)).1 - 1) = (tlZ (S 0)).1 - 1 := zw_lit (by omega) (by omega)
  by_cases qh : 0 ≤ u ∧ u < (tlZ (S 0)).1
  · have hh0 := qh.1
    have hh1 : u ≤ (tlZ (S 0)).1 - 1 := by omega
    have hh2 : ¬ u < 0 := by omega
    have hh3 : ¬ (tlZ (S 0)).1 - 1 < u := by omega
    have zh : zw (12 + u) = 12 + u := zw_lit (by omega) (by omega)
    have f0 : H1 217 u = (tlZ (S 0)).2.1 u := t.1.2.1 u hh0 qh.2
    have f1 : H1 218 (12 + u) = (tlZ (S 0)).2.2.1 (12 + u) := t.1.2.2.1 _ (by omega) (by omega)
    have f2 : H1 219 (12 + u) = (tlZ (S 0)).2.2.2 (12 + u) := t.1.2.2.2 _ (by omega) (by omega)
    have f3 : H1 220 (12 + u) = agdA (S 0) (12 + u) := t.2.2.2 _ (by omega) (by omega)
    have f4 : H1 297 (12 + u) = (mtZ (S 0)).1 (12 + u) := m.2.2.2.1 _ (by omega) (by omega)
    by_cases w0 : w = 0
    · have sw := sw_X11_heap_0
      simp (maxDischargeDepth := 12) -implicitDefEqProofs [vb_X11_heap_0, vb_X11_heap_23, vb_X11_heap_64, vb_X11_heap_74, vb_X11_heap_84, vb_X11_heap_94, vb_X11_heap_104, vb_X11_heap_114, xI_0, xI_1, xI_3, xI_7, xI_8, xI_14, xI_15, xI_38, xI_49, xI_51, xI_60, xI_61, xI_62, xI_106, xw_X11_heap_0, xw_X11_heap_23, xw_X11_heap_64, xw_X11_heap_74, xw_X11_heap_84, xw_X11_heap_94, xw_X11_heap_104, xw_X11_heap_114, zw_lit, xB_c, xB_s, xB_n, i1_c, j2_c, k1_c, jJ_e, xlg, xls, xla, xpd, ppush, zw_m1, zw_m2, zw_m3, gf_6_7, gf_9_3, gf_9_4, gf_9_5, gf_9_6, gf_9_7, gf_11_2, gf_11_3, tg_11_2, tg_11_3, tg_6_7, tg_9_3, tg_9_4, tg_9_5, tg_9_6, tg_9_7, gv_221_7, gv_215_3, gv_215_4, gv_215_5, gv_215_6, gv_215_7, gv_0_2, gv_0_3, xD1, xD2, xD3, xD4, xD5, xD6, xb1_0, e4, hh0, hh1, hh2, hh3, zh, z1, w0, sw, f0] at g
      exact ⟨_, _, g, by rw [w0]; unfold hpQ; rw [if_pos ⟨qh, by decide⟩]; rfl, cq⟩
    by_cases w1 : w = 1
    · have sw := sw_X11_heap_1
      simp (maxDischargeDepth := 12) -implicitDefEqProofs [vb_X11_heap_0, vb_X11_heap_23, vb_X11_heap_64, vb_X11_heap_74, vb_X11_heap_84, vb_X11_heap_94, vb_X11_heap_104, vb_X11_heap_114, xI_0, xI_1, xI_3, xI_7, xI_8, xI_14, xI_15, xI_38, xI_49, xI_51, xI_60, xI_61, xI_62, xI_106, xw_X11_heap_0, xw_X11_heap_23, xw_X11_heap_64, xw_X11_heap_74, xw_X11_heap_84, xw_X11_heap_94, xw_X11_heap_104, xw_X11_heap_114, zw_lit, xB_c, xB_s, xB_n, i1_c, j2_c, k1_c, jJ_e, xlg, xls, xla, xpd, ppush, zw_m1, zw_m2, zw_m3, gf_6_7, gf_9_3, gf_9_4, gf_9_5, gf_9_6, gf_9_7, gf_11_2, gf_11_3, tg_11_2, tg_11_3, tg_6_7, tg_9_3, tg_9_4, tg_9_5, tg_9_6, tg_9_7, gv_221_7, gv_215_3, gv_215_4, gv_215_5, gv_215_6, gv_215_7, gv_0_2, gv_0_3, xD1, xD2, xD3, xD4, xD5, xD6, xb1_0, e4, hh0, hh1, hh2, hh3, zh, z1, w1, sw, f1] at g
      exact ⟨_, _, g, by rw [w1]; unfold hpQ; rw [if_pos ⟨qh, by decide⟩]; rfl, cq⟩
    by_cases w2 : w = 2
    · have sw := sw_X11_heap_2
      simp (maxDischargeDepth := 12) -implicitDefEqProofs [vb_X11_heap_0, vb_X11_heap_23, vb_X11_heap_64, vb_X11_heap_74, vb_X11_heap_84, vb_X11_heap_94, vb_X11_heap_104, vb_X11_heap_114, xI_0, xI_1, xI_3, xI_7, xI_8, xI_14, xI_15, xI_38, xI_49, xI_51, xI_60, xI_61, xI_62, xI_106, xw_X11_heap_0, xw_X11_heap_23, xw_X11_heap_64, xw_X11_heap_74, xw_X11_heap_84, xw_X11_heap_94, xw_X11_heap_104, xw_X11_heap_114, zw_lit, xB_c, xB_s, xB_n, i1_c, j2_c, k1_c, jJ_e, xlg, xls, xla, xpd, ppush, zw_m1, zw_m2, zw_m3, gf_6_7, gf_9_3, gf_9_4, gf_9_5, gf_9_6, gf_9_7, gf_11_2, gf_11_3, tg_11_2, tg_11_3, tg_6_7, tg_9_3, tg_9_4, tg_9_5, tg_9_6, tg_9_7, gv_221_7, gv_215_3, gv_215_4, gv_215_5, gv_215_6, gv_215_7, gv_0_2, gv_0_3, xD1, xD2, xD3, xD4, xD5, xD6, xb1_0, e4, hh0, hh1, hh2, hh3, zh, z1, w2, sw, f2] at g
      exact ⟨_, _, g, by rw [w2]; unfold hpQ; rw [if_pos ⟨qh, by decide⟩]; rfl, cq⟩
    by_cases w3 : w = 3
    · have sw := sw_X11_heap_3
      simp (maxDischargeDepth := 12) -implicitDefEqProofs [vb_X11_heap_0, vb_X11_heap_23, vb_X11_heap_64, vb_X11_heap_74, vb_X11_heap_84, vb_X11_heap_94, vb_X11_heap_104, vb_X11_heap_114, xI_0, xI_1, xI_3, xI_7, xI_8, xI_14, xI_15, xI_38, xI_49, xI_51, xI_60, xI_61, xI_62, xI_106, xw_X11_heap_0, xw_X11_heap_23, xw_X11_heap_64, xw_X11_heap_74, xw_X11_heap_84, xw_X11_heap_94, xw_X11_heap_104, xw_X11_heap_114, zw_lit, xB_c, xB_s, xB_n, i1_c, j2_c, k1_c, jJ_e, xlg, xls, xla, xpd, ppush, zw_m1, zw_m2, zw_m3, gf_6_7, gf_9_3, gf_9_4, gf_9_5, gf_9_6, gf_9_7, gf_11_2, gf_11_3, tg_11_2, tg_11_3, tg_6_7, tg_9_3, tg_9_4, tg_9_5, tg_9_6, tg_9_7, gv_221_7, gv_215_3, gv_215_4, gv_215_5, gv_215_6, gv_215_7, gv_0_2, gv_0_3, xD1, xD2, xD3, xD4, xD5, xD6, xb1_0, e4, hh0, hh1, hh2, hh3, zh, z1, w3, sw, f3] at g
      exact ⟨_, _, g, by rw [w3]; unfold hpQ; rw [if_pos ⟨qh, by decide⟩]; rfl, cq⟩
    by_cases w4 : w = 4
    · have sw := sw_X11_heap_4
      simp (maxDischargeDepth := 12) -implicitDefEqProofs [vb_X11_heap_0, vb_X11_heap_23, vb_X11_heap_64, vb_X11_heap_74, vb_X11_heap_84, vb_X11_heap_94, vb_X11_heap_104, vb_X11_heap_114, xI_0, xI_1, xI_3, xI_7, xI_8, xI_14, xI_15, xI_38, xI_49, xI_51, xI_60, xI_61, xI_62, xI_106, xw_X11_heap_0, xw_X11_heap_23, xw_X11_heap_64, xw_X11_heap_74, xw_X11_heap_84, xw_X11_heap_94, xw_X11_heap_104, xw_X11_heap_114, zw_lit, xB_c, xB_s, xB_n, i1_c, j2_c, k1_c, jJ_e, xlg, xls, xla, xpd, ppush, zw_m1, zw_m2, zw_m3, gf_6_7, gf_9_3, gf_9_4, gf_9_5, gf_9_6, gf_9_7, gf_11_2, gf_11_3, tg_11_2, tg_11_3, tg_6_7, tg_9_3, tg_9_4, tg_9_5, tg_9_6, tg_9_7, gv_221_7, gv_215_3, gv_215_4, gv_215_5, gv_215_6, gv_215_7, gv_0_2, gv_0_3, xD1, xD2, xD3, xD4, xD5, xD6, xb1_0, e4, hh0, hh1, hh2, hh3, zh, z1, w4, sw, f4] at g
      exact ⟨_, _, g, by rw [w4]; unfold hpQ; rw [if_pos ⟨qh, by decide⟩]; rfl, cq⟩
    have sw := sw_X11_heap_d (x := w) (by omega)
    simp (maxDischargeDepth := 12) -implicitDefEqProofs [vb_X11_heap_0, vb_X11_heap_23, vb_X11_heap_64, vb_X11_heap_74, vb_X11_heap_84, vb_X11_heap_94, vb_X11_heap_104, vb_X11_heap_114, xI_0, xI_1, xI_3, xI_7, xI_8, xI_14, xI_15, xI_38, xI_49, xI_51, xI_60, xI_61, xI_62, xI_106, xw_X11_heap_0, xw_X11_heap_23, xw_X11_heap_64, xw_X11_heap_74, xw_X11_heap_84, xw_X11_heap_94, xw_X11_heap_104, xw_X11_heap_114, zw_lit, xB_c, xB_s, xB_n, i1_c, j2_c, k1_c, jJ_e, xlg, xls, xla, xpd, ppush, zw_m1, zw_m2, zw_m3, gf_6_7, gf_9_3, gf_9_4, gf_9_5, gf_9_6, gf_9_7, gf_11_2, gf_11_3, tg_11_2, tg_11_3, tg_6_7, tg_9_3, tg_9_4, tg_9_5, tg_9_6, tg_9_7, gv_221_7, gv_215_3, gv_215_4, gv_215_5, gv_215_6, gv_215_7, gv_0_2, gv_0_3, xD1, xD2, xD3, xD4, xD5, xD6, xb1_0, e4, hh0, hh1, hh2, hh3, zh, z1, sw] at g
    exact ⟨_, _, g, by unfold hpQ; rw [if_neg (by omega)], cq⟩
  · by_cases hh0 : 0 ≤ u
    · have hh1 : ¬ u ≤ (tlZ (S 0)).1 - 1 := by omega
      have hh2 : ¬ u < 0 := by omega
      have hh3 : (tlZ (S 0)).1 - 1 < u := by omega
      simp (maxDischargeDepth := 12) -implicitDefEqProofs [vb_X11_heap_0, vb_X11_heap_23, vb_X11_heap_64, vb_X11_heap_74, vb_X11_heap_84, vb_X11_heap_94, vb_X11_heap_104, vb_X11_heap_114, xI_0, xI_1, xI_3, xI_7, xI_8, xI_14, xI_15, xI_38, xI_49, xI_51, xI_60, xI_61, xI_62, xI_106, xw_X11_heap_0, xw_X11_heap_23, xw_X11_heap_64, xw_X11_heap_74, xw_X11_heap_84, xw_X11_heap_94, xw_X11_heap_104, xw_X11_heap_114, zw_lit, xB_c, xB_s, xB_n, i1_c, j2_c, k1_c, jJ_e, xlg, xls, xla, xpd, ppush, zw_m1, zw_m2, zw_m3, gf_6_7, gf_9_3, gf_9_4, gf_9_5, gf_9_6, gf_9_7, gf_11_2, gf_11_3, tg_11_2, tg_11_3, tg_6_7, tg_9_3, tg_9_4, tg_9_5, tg_9_6, tg_9_7, gv_221_7, gv_215_3, gv_215_4, gv_215_5, gv_215_6, gv_215_7, gv_0_2, gv_0_3, xD1, xD2, xD3, xD4, xD5, xD6, xb1_0, e4, hh0, hh1, hh2, hh3, z1] at g
      exact ⟨_, _, g, by unfold hpQ; rw [if_neg (by omega)], cq⟩
    · have hh2 : u < 0 := by omega
      simp (maxDischargeDepth := 12) -implicitDefEqProofs [vb_X11_heap_0, vb_X11_heap_23, vb_X11_heap_64, vb_X11_heap_74, vb_X11_heap_84, vb_X11_heap_94, vb_X11_heap_104, vb_X11_heap_114, xI_0, xI_1, xI_3, xI_7, xI_8, xI_14, xI_15, xI_38, xI_49, xI_51, xI_60, xI_61, xI_62, xI_106, xw_X11_heap_0, xw_X11_heap_23, xw_X11_heap_64, xw_X11_heap_74, xw_X11_heap_84, xw_X11_heap_94, xw_X11_heap_104, xw_X11_heap_114, zw_lit, xB_c, xB_s, xB_n, i1_c, j2_c, k1_c, jJ_e, xlg, xls, xla, xpd, ppush, zw_m1, zw_m2, zw_m3, gf_6_7, gf_9_3, gf_9_4, gf_9_5, gf_9_6, gf_9_7, gf_11_2, gf_11_3, tg_11_2, tg_11_3, tg_6_7, tg_9_3, tg_9_4, tg_9_5, tg_9_6, tg_9_7, gv_221_7, gv_215_3, gv_215_4, gv_215_5, gv_215_6, gv_215_7, gv_0_2, gv_0_3, xD1, xD2, xD3, xD4, xD5, xD6, xb1_0, e4, hh0, hh2, z1] at g
      exact ⟨_, _, g, by unfold hpQ; rw [if_neg (by omega)], cq⟩
set_option maxRecDepth 100000 in
theorem sp_c_tally (b w : Int) (S : Int → Int → Int) (n : Int) (H : PH) (hR : RC H S n) (hM : MCC (S 0) H) : SPEC 117 [(2, 0), (0, b), (0, w)] H (fun r H' => r = some (0, tyQ (S 0) b w) ∧ CQ H H' S n) := by
  intro E n' res h
  obtain ⟨e0, e2, z0, z2, a0, a2⟩ := RC_12 hR
  by_cases qb : 0 ≤ b ∧ b < S 0 0
  · have b0 := qb.1
    have b1 : b ≤ H 1 2 - 1 := by omega
    have b2 : ¬ b < 0 := by omega
    have b3 : ¬ H 1 2 - 1 < b := by omega
    have h := call_runP 3 vm_X11_tally h
    have h := xw_top (hd := []) 14 xD6_ok xc_X11_tally xa_X11_tally (t := 0) rfl h
    simp (maxDischargeDepth := 12) -implicitDefEqProofs [vb_X11_tally_0, vb_X11_tally_10, vb_X11_tally_64, vb_X11_tally_74, vb_X11_tally_84, vb_X11_tally_94, vb_X11_tally_107, vb_X11_tally_117, vb_X11_tally_127, vb_X11_tally_137, vb_X11_tally_147, vb_X11_tally_156, xI_0, xI_1, xI_7, xI_38, xI_49, xI_51, xI_53, xI_61, xI_62, xI_107, xw_X11_tally_0, xw_X11_tally_10, xw_X11_tally_64, xw_X11_tally_74, xw_X11_tally_84, xw_X11_tally_94, xw_X11_tally_107, xw_X11_tally_117, xw_X11_tally_127, xw_X11_tally_137, xw_X11_tally_147, xw_X11_tally_156, zw_lit, xB_c, xB_s, xB_n, i1_c, j2_c, k1_c, jJ_e, xlg, xls, xla, xpd, ppush, zw_m1, zw_m2, zw_m3, gf_1_1, gf_6_3, gf_6_4, gf_6_7, gf_6_8, gf_9_5, gf_9_6, gf_9_7, gf_11_0, gf_11_2, gf_11_3, tg_11_0, tg_11_2, tg_11_3, tg_1_1, tg_6_3, tg_6_4, tg_6_7, tg_6_8, tg_9_5, tg_9_6, tg_9_7, gv_1_1, gv_221_3, gv_221_4, gv_221_7, gv_221_8, gv_215_5, gv_215_6, gv_215_7, gv_0_0, gv_0_2, gv_0_3, xD1, xD2, xD3, xD4, xD5, xD6, xb1_0, z0, b0, b1, b2, b3] at h
    obtain ⟨r, H1, ⟨rfl, cq, t, m⟩, g⟩ := xc_use h (sp_c_match S n H hR hM)
    have ok0 := RC_sz hR
    have os := ok0.2.2.1
    unfold OKS at os
    have b60 := t.2.1
    have g46 : gv H1 46 b = 57 + 3 * b := gv46 b0 (by omega)
    have f0 : H1 218 b = (tlZ (S 0)).2.2.1 b := t.1.2.2.1 _ (by omega) (by omega)
    have f1 : H1 219 b = (tlZ (S 0)).2.2.2 b := t.1.2.2.2 _ (by omega) (by omega)
    have f2 : H1 220 b = agdA (S 0) b := t.2.2.2 _ (by omega) (by omega)
    have f4 : H1 223 b = wntA (S 0) b := m.2.2.1 _ (by omega) (by omega)
    have f5 : H1 222 b = offA (S 0) b := (m.2.1 _ (by omega) (by omega)).1
    have f6 : H1 298 b = (mtZ (S 0)).2.1 b := m.2.2.2.2.1 _ (by omega) (by omega)
    have f7 : H1 297 b = (mtZ (S 0)).1 b := m.2.2.2.1 _ (by omega) (by omega)
    by_cases w3 : w = 3
    · have sw := sw_X11_tally_3
      simp (maxDischargeDepth := 12) -implicitDefEqProofs [vb_X11_tally_0, vb_X11_tally_10, vb_X11_tally_64, vb_X11_tally_74, vb_X11_tally_84, vb_X11_tally_94, vb_X11_tally_107, vb_X11_tally_117, vb_X11_tally_127, vb_X11_tally_137, vb_X11_tally_147, vb_X11_tally_156, xI_0, xI_1, xI_7, xI_38, xI_49, xI_51, xI_53, xI_61, xI_62, xI_107, xw_X11_tally_0, xw_X11_tally_10, xw_X11_tally_64, xw_X11_tally_74, xw_X11_tally_84, xw_X11_tally_94, xw_X11_tally_107, xw_X11_tally_117, xw_X11_tally_127, xw_X11_tally_137, xw_X11_tally_147, xw_X11_tally_156, zw_lit, xB_c, xB_s, xB_n, i1_c, j2_c, k1_c, jJ_e, xlg, xls, xla, xpd, ppush, zw_m1, zw_m2, zw_m3, gf_1_1, gf_6_3, gf_6_4, gf_6_7, gf_6_8, gf_9_5, gf_9_6, gf_9_7, gf_11_0, gf_11_2, gf_11_3, tg_11_0, tg_11_2, tg_11_3, tg_1_1, tg_6_3, tg_6_4, tg_6_7, tg_6_8, tg_9_5, tg_9_6, tg_9_7, gv_1_1, gv_221_3, gv_221_4, gv_221_7, gv_221_8, gv_215_5, gv_215_6, gv_215_7, gv_0_0, gv_0_2, gv_0_3, xD1, xD2, xD3, xD4, xD5, xD6, xb1_0, w3, sw, g46] at g
      obtain ⟨r, H2, ⟨rfl, rfl⟩, g2⟩ := xc_use g (sp_X0_dueBales b (S 0) H1 ok0.1 cq.1.1.1 qb)
      exact ⟨_, _, g2, by rw [w3]; unfold tyQ; rw [if_pos ⟨qb, by decide⟩]; rfl, cq⟩
    by_cases w8 : w = 8
    · have sw := sw_X11_tally_8
      simp (maxDischargeDepth := 12) -implicitDefEqProofs [vb_X11_tally_0, vb_X11_tally_10, vb_X11_tally_64, vb_X11_tally_74, vb_X11_tally_84, vb_X11_tally_94, vb_X11_tally_107, vb_X11_tally_117, vb_X11_tally_127, vb_X11_tally_137, vb_X11_tally_147, vb_X11_tally_156, xI_0, xI_1, xI_7, xI_38, xI_49, xI_51, xI_53, xI_61, xI_62, xI_107, xw_X11_tally_0, xw_X11_tally_10, xw_X11_tally_64, xw_X11_tally_74, xw_X11_tally_84, xw_X11_tally_94, xw_X11_tally_107, xw_X11_tally_117, xw_X11_tally_127, xw_X11_tally_137, xw_X11_tally_147, xw_X11_tally_156, zw_lit, xB_c, xB_s, xB_n, i1_c, j2_c, k1_c, jJ_e, xlg, xls, xla, xpd, ppush, zw_m1, zw_m2, zw_m3, gf_1_1, gf_6_3, gf_6_4, gf_6_7, gf_6_8, gf_9_5, gf_9_6, gf_9_7, gf_11_0, gf_11_2, gf_11_3, tg_11_0, tg_11_2, tg_11_3, tg_1_1, tg_6_3, tg_6_4, tg_6_7, tg_6_8, tg_9_5, tg_9_6, tg_9_7, gv_1_1, gv_221_3, gv_221_4, gv_221_7, gv_221_8, gv_215_5, gv_215_6, gv_215_7, gv_0_0, gv_0_2, gv_0_3, xD1, xD2, xD3, xD4, xD5, xD6, xb1_0, w8, sw] at g
      obtain ⟨r, H2, ⟨rfl, rfl⟩, g2⟩ := xc_use g (sp_X6_broughtTo (S 0) b H1 ⟨b0, by omega⟩ m)
      refine ⟨_, _, g2, ?_, cq⟩
      rw [w8]
      unfold tyQ
      rw [if_pos ⟨qb, by decide⟩, ← mtoA_eq os.2.1 ⟨b0, by omega⟩]
      rfl
    by_cases w0 : w = 0
    · have sw := sw_X11_tally_0
      have e := f0
      simp (maxDischargeDepth := 12) -implicitDefEqProofs [vb_X11_tally_0, vb_X11_tally_10, vb_X11_tally_64, vb_X11_tally_74, vb_X11_tally_84, vb_X11_tally_94, vb_X11_tally_107, vb_X11_tally_117, vb_X11_tally_127, vb_X11_tally_137, vb_X11_tally_147, vb_X11_tally_156, xI_0, xI_1, xI_7, xI_38, xI_49, xI_51, xI_53, xI_61, xI_62, xI_107, xw_X11_tally_0, xw_X11_tally_10, xw_X11_tally_64, xw_X11_tally_74, xw_X11_tally_84, xw_X11_tally_94, xw_X11_tally_107, xw_X11_tally_117, xw_X11_tally_127, xw_X11_tally_137, xw_X11_tally_147, xw_X11_tally_156, zw_lit, xB_c, xB_s, xB_n, i1_c, j2_c, k1_c, jJ_e, xlg, xls, xla, xpd, ppush, zw_m1, zw_m2, zw_m3, gf_1_1, gf_6_3, gf_6_4, gf_6_7, gf_6_8, gf_9_5, gf_9_6, gf_9_7, gf_11_0, gf_11_2, gf_11_3, tg_11_0, tg_11_2, tg_11_3, tg_1_1, tg_6_3, tg_6_4, tg_6_7, tg_6_8, tg_9_5, tg_9_6, tg_9_7, gv_1_1, gv_221_3, gv_221_4, gv_221_7, gv_221_8, gv_215_5, gv_215_6, gv_215_7, gv_0_0, gv_0_2, gv_0_3, xD1, xD2, xD3, xD4, xD5, xD6, xb1_0, w0, sw, e] at g
      exact ⟨_, _, g, by rw [w0]; unfold tyQ; rw [if_pos ⟨qb, by decide⟩]; rfl, cq⟩
    by_cases w1 : w = 1
    · have sw := sw_X11_tally_1
      have e := f1
      simp (maxDischargeDepth := 12) -implicitDefEqProofs [vb_X11_tally_0, vb_X11_tally_10, vb_X11_tally_64, vb_X11_tally_74, vb_X11_tally_84, vb_X11_tally_94, vb_X11_tally_107, vb_X11_tally_117, vb_X11_tally_127, vb_X11_tally_137, vb_X11_tally_147, vb_X11_tally_156, xI_0, xI_1, xI_7, xI_38, xI_49, xI_51, xI_53, xI_61, xI_62, xI_107, xw_X11_tally_0, xw_X11_tally_10, xw_X11_tally_64, xw_X11_tally_74, xw_X11_tally_84, xw_X11_tally_94, xw_X11_tally_107, xw_X11_tally_117, xw_X11_tally_127, xw_X11_tally_137, xw_X11_tally_147, xw_X11_tally_156, zw_lit, xB_c, xB_s, xB_n, i1_c, j2_c, k1_c, jJ_e, xlg, xls, xla, xpd, ppush, zw_m1, zw_m2, zw_m3, gf_1_1, gf_6_3, gf_6_4, gf_6_7, gf_6_8, gf_9_5, gf_9_6, gf_9_7, gf_11_0, gf_11_2, gf_11_3, tg_11_0, tg_11_2, tg_11_3, tg_1_1, tg_6_3, tg_6_4, tg_6_7, tg_6_8, tg_9_5, tg_9_6, tg_9_7, gv_1_1, gv_221_3, gv_221_4, gv_221_7, gv_221_8, gv_215_5, gv_215_6, gv_215_7, gv_0_0, gv_0_2, gv_0_3, xD1, xD2, xD3, xD4, xD5, xD6, xb1_0, w1, sw, e] at g
      exact ⟨_, _, g, by rw [w1]; unfold tyQ; rw [if_pos ⟨qb, by decide⟩]; rfl, cq⟩
    by_cases w2 : w = 2
    · have sw := sw_X11_tally_2
      have e := f2
      simp (maxDischargeDepth := 12) -implicitDefEqProofs [vb_X11_tally_0, vb_X11_tally_10, vb_X11_tally_64, vb_X11_tally_74, vb_X11_tally_84, vb_X11_tally_94, vb_X11_tally_107, vb_X11_tally_117, vb_X11_tally_127, vb_X11_tally_137, vb_X11_tally_147, vb_X11_tally_156, xI_0, xI_1, xI_7, xI_38, xI_49, xI_51, xI_53, xI_61, xI_62, xI_107, xw_X11_tally_0, xw_X11_tally_10, xw_X11_tally_64, xw_X11_tally_74, xw_X11_tally_84, xw_X11_tally_94, xw_X11_tally_107, xw_X11_tally_117, xw_X11_tally_127, xw_X11_tally_137, xw_X11_tally_147, xw_X11_tally_156, zw_lit, xB_c, xB_s, xB_n, i1_c, j2_c, k1_c, jJ_e, xlg, xls, xla, xpd, ppush, zw_m1, zw_m2, zw_m3, gf_1_1, gf_6_3, gf_6_4, gf_6_7, gf_6_8, gf_9_5, gf_9_6, gf_9_7, gf_11_0, gf_11_2, gf_11_3, tg_11_0, tg_11_2, tg_11_3, tg_1_1, tg_6_3, tg_6_4, tg_6_7, tg_6_8, tg_9_5, tg_9_6, tg_9_7, gv_1_1, gv_221_3, gv_221_4, gv_221_7, gv_221_8, gv_215_5, gv_215_6, gv_215_7, gv_0_0, gv_0_2, gv_0_3, xD1, xD2, xD3, xD4, xD5, xD6, xb1_0, w2, sw, e] at g
      exact ⟨_, _, g, by rw [w2]; unfold tyQ; rw [if_pos ⟨qb, by decide⟩]; rfl, cq⟩
    by_cases w4 : w = 4
    · have sw := sw_X11_tally_4
      have e := f4
      simp (maxDischargeDepth := 12) -implicitDefEqProofs [vb_X11_tally_0, vb_X11_tally_10, vb_X11_tally_64, vb_X11_tally_74, vb_X11_tally_84, vb_X11_tally_94, vb_X11_tally_107, vb_X11_tally_117, vb_X11_tally_127, vb_X11_tally_137, vb_X11_tally_147, vb_X11_tally_156, xI_0, xI_1, xI_7, xI_38, xI_49, xI_51, xI_53, xI_61, xI_62, xI_107, xw_X11_tally_0, xw_X11_tally_10, xw_X11_tally_64, xw_X11_tally_74, xw_X11_tally_84, xw_X11_tally_94, xw_X11_tally_107, xw_X11_tally_117, xw_X11_tally_127, xw_X11_tally_137, xw_X11_tally_147, xw_X11_tally_156, zw_lit, xB_c, xB_s, xB_n, i1_c, j2_c, k1_c, jJ_e, xlg, xls, xla, xpd, ppush, zw_m1, zw_m2, zw_m3, gf_1_1, gf_6_3, gf_6_4, gf_6_7, gf_6_8, gf_9_5, gf_9_6, gf_9_7, gf_11_0, gf_11_2, gf_11_3, tg_11_0, tg_11_2, tg_11_3, tg_1_1, tg_6_3, tg_6_4, tg_6_7, tg_6_8, tg_9_5, tg_9_6, tg_9_7, gv_1_1, gv_221_3, gv_221_4, gv_221_7, gv_221_8, gv_215_5, gv_215_6, gv_215_7, gv_0_0, gv_0_2, gv_0_3, xD1, xD2, xD3, xD4, xD5, xD6, xb1_0, w4, sw, e] at g
      exact ⟨_, _, g, by rw [w4]; unfold tyQ; rw [if_pos ⟨qb, by decide⟩]; rfl, cq⟩
    by_cases w5 : w = 5
    · have sw := sw_X11_tally_5
      have e := f5
      simp (maxDischargeDepth := 12) -implicitDefEqProofs [vb_X11_tally_0, vb_X11_tally_10, vb_X11_tally_64, vb_X11_tally_74, vb_X11_tally_84, vb_X11_tally_94, vb_X11_tally_107, vb_X11_tally_117, vb_X11_tally_127, vb_X11_tally_137, vb_X11_tally_147, vb_X11_tally_156, xI_0, xI_1, xI_7, xI_38, xI_49, xI_51, xI_53, xI_61, xI_62, xI_107, xw_X11_tally_0, xw_X11_tally_10, xw_X11_tally_64, xw_X11_tally_74, xw_X11_tally_84, xw_X11_tally_94, xw_X11_tally_107, xw_X11_tally_117, xw_X11_tally_127, xw_X11_tally_137, xw_X11_tally_147, xw_X11_tally_156, zw_lit, xB_c, xB_s, xB_n, i1_c, j2_c, k1_c, jJ_e, xlg, xls, xla, xpd, ppush, zw_m1, zw_m2, zw_m3, gf_1_1, gf_6_3, gf_6_4, gf_6_7, gf_6_8, gf_9_5, gf_9_6, gf_9_7, gf_11_0, gf_11_2, gf_11_3, tg_11_0, tg_11_2, tg_11_3, tg_1_1, tg_6_3, tg_6_4, tg_6_7, tg_6_8, tg_9_5, tg_9_6, tg_9_7, gv_1_1, gv_221_3, gv_221_4, gv_221_7, gv_221_8, gv_215_5, gv_215_6, gv_215_7, gv_0_0, gv_0_2, gv_0_3, xD1, xD2, xD3, xD4, xD5, xD6, xb1_0, w5, sw, e] at g
      exact ⟨_, _, g, by rw [w5]; unfold tyQ; rw [if_pos ⟨qb, by decide⟩]; rfl, cq⟩
    by_cases w6 : w = 6
    · have sw := sw_X11_tally_6
      have e := f6
      simp (maxDischargeDepth := 12) -implicitDefEqProofs [vb_X11_tally_0, vb_X11_tally_10, vb_X11_tally_64, vb_X11_tally_74, vb_X11_tally_84, vb_X11_tally_94, vb_X11_tally_107, vb_X11_tally_117, vb_X11_tally_127, vb_X11_tally_137, vb_X11_tally_147, vb_X11_tally_156, xI_0, xI_1, xI_7, xI_38, xI_49, xI_51, xI_53, xI_61, xI_62, xI_107, xw_X11_tally_0, xw_X11_tally_10, xw_X11_tally_64, xw_X11_tally_74, xw_X11_tally_84, xw_X11_tally_94, xw_X11_tally_107, xw_X11_tally_117, xw_X11_tally_127, xw_X11_tally_137, xw_X11_tally_147, xw_X11_tally_156, zw_lit, xB_c, xB_s, xB_n, i1_c, j2_c, k1_c, jJ_e, xlg, xls, xla, xpd, ppush, zw_m1, zw_m2, zw_m3, gf_1_1, gf_6_3, gf_6_4, gf_6_7, gf_6_8, gf_9_5, gf_9_6, gf_9_7, gf_11_0, gf_11_2, gf_11_3, tg_11_0, tg_11_2, tg_11_3, tg_1_1, tg_6_3, tg_6_4, tg_6_7, tg_6_8, tg_9_5, tg_9_6, tg_9_7, gv_1_1, gv_221_3, gv_221_4, gv_221_7, gv_221_8, gv_215_5, gv_215_6, gv_215_7, gv_0_0, gv_0_2, gv_0_3, xD1, xD2, xD3, xD4, xD5, xD6, xb1_0, w6, sw, e] at g
      exact ⟨_, _, g, by rw [w6]; unfold tyQ; rw [if_pos ⟨qb, by decide⟩]; rfl, cq⟩
    by_cases w7 : w = 7
    · have sw := sw_X11_tally_7
      have e := f7
      simp (maxDischargeDepth := 12) -implicitDefEqProofs [vb_X11_tally_0, vb_X11_tally_10, vb_X11_tally_64, vb_X11_tally_74, vb_X11_tally_84, vb_X11_tally_94, vb_X11_tally_107, vb_X11_tally_117, vb_X11_tally_127, vb_X11_tally_137, vb_X11_tally_147, vb_X11_tally_156, xI_0, xI_1, xI_7, xI_38, xI_49, xI_51, xI_53, xI_61, xI_62, xI_107, xw_X11_tally_0, xw_X11_tally_10, xw_X11_tally_64, xw_X11_tally_74, xw_X11_tally_84, xw_X11_tally_94, xw_X11_tally_107, xw_X11_tally_117, xw_X11_tally_127, xw_X11_tally_137, xw_X11_tally_147, xw_X11_tally_156, zw_lit, xB_c, xB_s, xB_n, i1_c, j2_c, k1_c, jJ_e, xlg, xls, xla, xpd, ppush, zw_m1, zw_m2, zw_m3, gf_1_1, gf_6_3, gf_6_4, gf_6_7, gf_6_8, gf_9_5, gf_9_6, gf_9_7, gf_11_0, gf_11_2, gf_11_3, tg_11_0, tg_11_2, tg_11_3, tg_1_1, tg_6_3, tg_6_4, tg_6_7, tg_6_8, tg_9_5, tg_9_6, tg_9_7, gv_1_1, gv_221_3, gv_221_4, gv_221_7, gv_221_8, gv_215_5, gv_215_6, gv_215_7, gv_0_0, gv_0_2, gv_0_3, xD1, xD2, xD3, xD4, xD5, xD6, xb1_0, w7, sw, e] at g
      exact ⟨_, _, g, by rw [w7]; unfold tyQ; rw [if_pos ⟨qb, by decide⟩]; rfl, cq⟩
    have sw := sw_X11_tally_d (x := w) (by omega)
    simp (maxDischargeDepth := 12) -implicitDefEqProofs [vb_X11_tally_0, vb_X11_tally_10, vb_X11_tally_64, vb_X11_tally_74, vb_X11_tally_84, vb_X11_tally_94, vb_X11_tally_107, vb_X11_tally_117, vb_X11_tally_127, vb_X11_tally_137, vb_X11_tally_147, vb_X11_tally_156, xI_0, xI_1, xI_7, xI_38, xI_49, xI_51, xI_53, xI_61, xI_62, xI_107, xw_X11_tally_0, xw_X11_tally_10, xw_X11_tally_64, xw_X11_tally_74, xw_X11_tally_84, xw_X11_tally_94, xw_X11_tally_107, xw_X11_tally_117, xw_X11_tally_127, xw_X11_tally_137, xw_X11_tally_147, xw_X11_tally_156, zw_lit, xB_c, xB_s, xB_n, i1_c, j2_c, k1_c, jJ_e, xlg, xls, xla, xpd, ppush, zw_m1, zw_m2, zw_m3, gf_1_1, gf_6_3, gf_6_4, gf_6_7, gf_6_8, gf_9_5, gf_9_6, gf_9_7, gf_11_0, gf_11_2, gf_11_3, tg_11_0, tg_11_2, tg_11_3, tg_1_1, tg_6_3, tg_6_4, tg_6_7, tg_6_8, tg_9_5, tg_9_6, tg_9_7, gv_1_1, gv_221_3, gv_221_4, gv_221_7, gv_221_8, gv_215_5, gv_215_6, gv_215_7, gv_0_0, gv_0_2, gv_0_3, xD1, xD2, xD3, xD4, xD5, xD6, xb1_0, sw] at g
    exact ⟨_, _, g, by unfold tyQ; rw [if_neg (by omega)], cq⟩
  · by_cases b0 : 0 ≤ b
    · have b1 : ¬ b ≤ H 1 2 - 1 := by omega
      have b2 : ¬ b < 0 := by omega
      have b3 : H 1 2 - 1 < b := by omega
      have h := call_runP 3 vm_X11_tally h
      have h := xw_top (hd := []) 14 xD6_ok xc_X11_tally xa_X11_tally (t := 0) rfl h
      simp (maxDischargeDepth := 12) -implicitDefEqProofs [vb_X11_tally_0, vb_X11_tally_10, vb_X11_tally_64, vb_X11_tally_74, vb_X11_tally_84, vb_X11_tally_94, vb_X11_tally_107, vb_X11_tally_117, vb_X11_tally_127, vb_X11_tally_137, vb_X11_tally_147, vb_X11_tally_156, xI_0, xI_1, xI_7, xI_38, xI_49, xI_51, xI_53, xI_61, xI_62, xI_107, xw_X11_tally_0, xw_X11_tally_10, xw_X11_tally_64, xw_X11_tally_74, xw_X11_tally_84, xw_X11_tally_94, xw_X11_tally_107, xw_X11_tally_117, xw_X11_tally_127, xw_X11_tally_137, xw_X11_tally_147, xw_X11_tally_156, zw_lit, xB_c, xB_s, xB_n, i1_c, j2_c, k1_c, jJ_e, xlg, xls, xla, xpd, ppush, zw_m1, zw_m2, zw_m3, gf_1_1, gf_6_3, gf_6_4, gf_6_7, gf_6_8, gf_9_5, gf_9_6, gf_9_7, gf_11_0, gf_11_2, gf_11_3, tg_11_0, tg_11_2, tg_11_3, tg_1_1, tg_6_3, tg_6_4, tg_6_7, tg_6_8, tg_9_5, tg_9_6, tg_9_7, gv_1_1, gv_221_3, gv_221_4, gv_221_7, gv_221_8, gv_215_5, gv_215_6, gv_215_7, gv_0_0, gv_0_2, gv_0_3, xD1, xD2, xD3, xD4, xD5, xD6, xb1_0, z0, z2, b0, b1, b2, b3] at h
      exact ⟨_, _, h, by unfold tyQ; rw [if_neg (by omega)], CQ_refl hR hM⟩
    · have b2 : b < 0 := by omega
      have h := call_runP 3 vm_X11_tally h
      have h := xw_top (hd := []) 14 xD6_ok xc_X11_tally xa_X11_tally (t := 0) rfl h
      simp (maxDischargeDepth := 12) -implicitDefEqProofs [vb_X11_tally_0, vb_X11_tally_10, vb_X11_tally_64, vb_X11_tally_74, vb_X11_tally_84, vb_X11_tally_94, vb_X11_tally_107, vb_X11_tally_117, vb_X11_tally_127, vb_X11_tally_137, vb_X11_tally_147, vb_X11_tally_156, xI_0, xI_1, xI_7, xI_38, xI_49, xI_51, xI_53, xI_61, xI_62, xI_107, xw_X11_tally_0, xw_X11_tally_10, xw_X11_tally_64, xw_X11_tally_74, xw_X11_tally_84, xw_X11_tally_94, xw_X11_tally_107, xw_X11_tally_117, xw_X11_tally_127, xw_X11_tally_137, xw_X11_tally_147, xw_X11_tally_156, zw_lit, xB_c, xB_s, xB_n, i1_c, j2_c, k1_c, jJ_e, xlg, xls, xla, xpd, ppush, zw_m1, zw_m2, zw_m3, gf_1_1, gf_6_3, gf_6_4, gf_6_7, gf_6_8, gf_9_5, gf_9_6, gf_9_7, gf_11_0, gf_11_2, gf_11_3, tg_11_0, tg_11_2, tg_11_3, tg_1_1, tg_6_3, tg_6_4, tg_6_7, tg_6_8, tg_9_5, tg_9_6, tg_9_7, gv_1_1, gv_221_3, gv_221_4, gv_221_7, gv_221_8, gv_215_5, gv_215_6, gv_215_7, gv_0_0, gv_0_2, gv_0_3, xD1, xD2, xD3, xD4, xD5, xD6, xb1_0, z0, z2, b0, b2] at h
      exact ⟨_, _, h, by unfold tyQ; rw [if_neg (by omega)], CQ_refl hR hM⟩
set_option maxRecDepth 100000 in
theorem sp_c_brought (s b : Int) (S : Int → Int → Int) (n : Int) (H : PH) (hR : RC H S n) (hM : MCC (S 0) H) : SPEC 118 [(2, 0), (0, s), (0, b)] H (fun r H' => r = some (0, brQ (S 0) s b) ∧ CQ H H' S n) := by
  intro E n' res h
  have h := call_runP 4 vm_X11_brought h
  have h := xw_top (hd := []) 5 xD6_ok xc_X11_brought xa_X11_brought (t := 0) rfl h
  simp (maxDischargeDepth := 12) -implicitDefEqProofs [vb_X11_brought_0, vb_X11_brought_40, vb_X11_brought_42, xI_0, xI_1, xI_3, xI_7, xI_8, xI_15, xI_37, xI_38, xI_49, xI_51, xI_53, xI_60, xI_61, xI_62, xw_X11_brought_0, xw_X11_brought_40, xw_X11_brought_42, zw_lit, xB_c, xB_s, xB_n, i1_c, j2_c, k1_c, jJ_e, xlg, xls, xla, xpd, ppush, zw_m1, zw_m2, zw_m3, gf_6_6, gf_6_9, gf_11_3, tg_11_3, tg_6_6, tg_6_9, gv_221_6, gv_221_9, gv_0_3, xD1, xD2, xD3, xD4, xD5, xD6, xb1_0] at h
  obtain ⟨r, H1, ⟨rfl, cq, t, m⟩, g⟩ := xc_use h (sp_c_match S n H hR hM)
  obtain ⟨e0, e2, z0, z2, a0, a2⟩ := RC_12 cq.1
  have e6 : H1 221 6 = 12 + (tlZ (S 0)).1 := m.1
  have b60 := t.2.1
  have z1 : zw (12 + (tlZ (S 0)).1 - 1) = 11 + (tlZ (S 0)).1 := by rw [show 12 + (tlZ (S 0)).1 - 1 = 11 + (tlZ (S 0)).1 by omega]; exact zw_lit (by omega) (by omega)
  have no : ∀ X : PH, ¬ ((0 ≤ b ∧ b < S 0 0) ∧ ((0 ≤ s ∧ s < S 0 0) ∨ (12 ≤ s ∧ s < 12 + (tlZ (S 0)).1))) → REPR E res (some (0, -1)) H1 → ∃ r H', REPR E res r H' ∧ r = some (0, brQ (S 0) s b) ∧ CQ H H' S n := fun _ q g => ⟨_, _, g, by unfold brQ; rw [if_neg q], cq⟩
  have yes : ((0 ≤ b ∧ b < S 0 0) ∧ ((0 ≤ s ∧ s < S 0 0) ∨ (12 ≤ s ∧ s < 12 + (tlZ (S 0)).1))) → REPR E res (some (0, H1 (300 + s) b)) H1 → ∃ r H', REPR E res r H' ∧ r = some (0, brQ (S 0) s b) ∧ CQ H H' S n := fun q g => ⟨_, _, g, by unfold brQ; rw [if_pos q, m.2.2.2.2.2.1 s b (by omega) (by omega) (by omega) (by omega)], cq⟩
  have g299 : 0 ≤ s → s < 72 → gv H1 299 s = 300 + s := fun p q => gv299 p q
  by_cases qs : 12 ≤ s ∧ s < 12 + (tlZ (S 0)).1
  · have s0 := qs.1
    have s1 : s ≤ 11 + (tlZ (S 0)).1 := by omega
    have s2 : ¬ s < 12 := by omega
    have s3 : ¬ 11 + (tlZ (S 0)).1 < s := by omega
    have gs := g299 (by omega) (by omega)
    by_cases qb : 0 ≤ b ∧ b < S 0 0
    · have b0 := qb.1
      have b1 : b ≤ H1 1 2 - 1 := by omega
      have b2 : ¬ b < 0 := by omega
      have b3 : ¬ H1 1 2 - 1 < b := by omega
      by_cases t0 : 0 ≤ s ∧ s ≤ H1 1 2 - 1
      · omega
      · have t1 : ¬ s ≤ H1 1 2 - 1 := by omega
        have t2 : H1 1 2 - 1 < s := by omega
        have t3 : ¬ s < 0 := by omega
        simp (maxDischargeDepth := 12) -implicitDefEqProofs [vb_X11_brought_0, vb_X11_brought_40, vb_X11_brought_42, xI_0, xI_1, xI_3, xI_7, xI_8, xI_15, xI_37, xI_38, xI_49, xI_51, xI_53, xI_60, xI_61, xI_62, xw_X11_brought_0, xw_X11_brought_40, xw_X11_brought_42, zw_lit, xB_c, xB_s, xB_n, i1_c, j2_c, k1_c, jJ_e, xlg, xls, xla, xpd, ppush, zw_m1, zw_m2, zw_m3, gf_6_6, gf_6_9, gf_11_3, tg_11_3, tg_6_6, tg_6_9, gv_221_6, gv_221_9, gv_0_3, xD1, xD2, xD3, xD4, xD5, xD6, xb1_0, e6, z0, z1, s0, s1, s2, s3, b0, b1, b2, b3, t1, t2, t3, gs] at g
        exact yes ⟨qb, Or.inr qs⟩ (g (by omega))
    · by_cases b0 : 0 ≤ b
      · have b1 : ¬ b ≤ H1 1 2 - 1 := by omega
        have b2 : ¬ b < 0 := by omega
        have b3 : H1 1 2 - 1 < b := by omega
        simp (maxDischargeDepth := 12) -implicitDefEqProofs [vb_X11_brought_0, vb_X11_brought_40, vb_X11_brought_42, xI_0, xI_1, xI_3, xI_7, xI_8, xI_15, xI_37, xI_38, xI_49, xI_51, xI_53, xI_60, xI_61, xI_62, xw_X11_brought_0, xw_X11_brought_40, xw_X11_brought_42, zw_lit, xB_c, xB_s, xB_n, i1_c, j2_c, k1_c, jJ_e, xlg, xls, xla, xpd, ppush, zw_m1, zw_m2, zw_m3, gf_6_6, gf_6_9, gf_11_3, tg_11_3, tg_6_6, tg_6_9, gv_221_6, gv_221_9, gv_0_3, xD1, xD2, xD3, xD4, xD5, xD6, xb1_0, e6, z0, z1, s0, s1, s2, s3, b0, b1, b2, b3] at g
        exact no H1 (by omega) g
      · have b2 : b < 0 := by omega
        simp (maxDischargeDepth := 12) -implicitDefEqProofs [vb_X11_brought_0, vb_X11_brought_40, vb_X11_brought_42, xI_0, xI_1, xI_3, xI_7, xI_8, xI_15, xI_37, xI_38, xI_49, xI_51, xI_53, xI_60, xI_61, xI_62, xw_X11_brought_0, xw_X11_brought_40, xw_X11_brought_42, zw_lit, xB_c, xB_s, xB_n, i1_c, j2_c, k1_c, jJ_e, xlg, xls, xla, xpd, ppush, zw_m1, zw_m2, zw_m3, gf_6_6, gf_6_9, gf_11_3, tg_11_3, tg_6_6, tg_6_9, gv_221_6, gv_221_9, gv_0_3, xD1, xD2, xD3, xD4, xD5, xD6, xb1_0, e6, z0, z1, s0, s1, s2, s3, b0, b2] at g
        exact no H1 (by omega) g
  · have sx : (¬ 12 ≤ s) ∨ (12 ≤ s ∧ ¬ s ≤ 11 + (tlZ (S 0)).1) := by omega
    by_cases qb : 0 ≤ b ∧ b < S 0 0
    · have b0 := qb.1
      have b1 : b ≤ H1 1 2 - 1 := by omega
      have b2 : ¬ b < 0 := by omega
      have b3 : ¬ H1 1 2 - 1 < b := by omega
      by_cases qt : 0 ≤ s ∧ s < S 0 0
      · have t0 := qt.1
        have t1 : s ≤ H1 1 2 - 1 := by omega
        have t2 : ¬ H1 1 2 - 1 < s := by omega
        have t3 : ¬ s < 0 := by omega
        have s0 : ¬ 12 ≤ s := by omega
        have s2 : s < 12 := by omega
        have gs := g299 (by omega) (by omega)
        have i3 : 0 ≤ 300 + s := by omega
        simp (maxDischargeDepth := 12) -implicitDefEqProofs [vb_X11_brought_0, vb_X11_brought_40, vb_X11_brought_42, xI_0, xI_1, xI_3, xI_7, xI_8, xI_15, xI_37, xI_38, xI_49, xI_51, xI_53, xI_60, xI_61, xI_62, xw_X11_brought_0, xw_X11_brought_40, xw_X11_brought_42, zw_lit, xB_c, xB_s, xB_n, i1_c, j2_c, k1_c, jJ_e, xlg, xls, xla, xpd, ppush, zw_m1, zw_m2, zw_m3, gf_6_6, gf_6_9, gf_11_3, tg_11_3, tg_6_6, tg_6_9, gv_221_6, gv_221_9, gv_0_3, xD1, xD2, xD3, xD4, xD5, xD6, xb1_0, e6, z0, z1, s0, s2, b0, b1, b2, b3, t0, t1, t2, t3, gs] at g
        exact yes ⟨qb, Or.inl qt⟩ (g i3)
      · have qn : ¬ ((0 ≤ b ∧ b < S 0 0) ∧ ((0 ≤ s ∧ s < S 0 0) ∨ (12 ≤ s ∧ s < 12 + (tlZ (S 0)).1))) := by omega
        by_cases t0 : 0 ≤ s
        · have t1 : ¬ s ≤ H1 1 2 - 1 := by omega
          have t2 : H1 1 2 - 1 < s := by omega
          have t3 : ¬ s < 0 := by omega
          rcases sx with s0 | ⟨s0, s1⟩
          · have s2 : s < 12 := by omega
            simp (maxDischargeDepth := 12) -implicitDefEqProofs [vb_X11_brought_0, vb_X11_brought_40, vb_X11_brought_42, xI_0, xI_1, xI_3, xI_7, xI_8, xI_15, xI_37, xI_38, xI_49, xI_51, xI_53, xI_60, xI_61, xI_62, xw_X11_brought_0, xw_X11_brought_40, xw_X11_brought_42, zw_lit, xB_c, xB_s, xB_n, i1_c, j2_c, k1_c, jJ_e, xlg, xls, xla, xpd, ppush, zw_m1, zw_m2, zw_m3, gf_6_6, gf_6_9, gf_11_3, tg_11_3, tg_6_6, tg_6_9, gv_221_6, gv_221_9, gv_0_3, xD1, xD2, xD3, xD4, xD5, xD6, xb1_0, e6, z0, z1, s0, s2, b0, b1, b2, b3, t0, t1, t2, t3] at g
            exact no H1 qn g
          · have s2 : ¬ s < 12 := by omega
            have s3 : 11 + (tlZ (S 0)).1 < s := by omega
            simp (maxDischargeDepth := 12) -implicitDefEqProofs [vb_X11_brought_0, vb_X11_brought_40, vb_X11_brought_42, xI_0, xI_1, xI_3, xI_7, xI_8, xI_15, xI_37, xI_38, xI_49, xI_51, xI_53, xI_60, xI_61, xI_62, xw_X11_brought_0, xw_X11_brought_40, xw_X11_brought_42, zw_lit, xB_c, xB_s, xB_n, i1_c, j2_c, k1_c, jJ_e, xlg, xls, xla, xpd, ppush, zw_m1, zw_m2, zw_m3, gf_6_6, gf_6_9, gf_11_3, tg_11_3, tg_6_6, tg_6_9, gv_221_6, gv_221_9, gv_0_3, xD1, xD2, xD3, xD4, xD5, xD6, xb1_0, e6, z0, z1, s0, s1, s2, s3, b0, b1, b2, b3, t0, t1, t2, t3] at g
            exact no H1 qn g
        · have t3 : s < 0 := by omega
          have s0 : ¬ 12 ≤ s := by omega
          have s2 : s < 12 := by omega
          simp (maxDischargeDepth := 12) -implicitDefEqProofs [vb_X11_brought_0, vb_X11_brought_40, vb_X11_brought_42, xI_0, xI_1, xI_3, xI_7, xI_8, xI_15, xI_37, xI_38, xI_49, xI_51, xI_53, xI_60, xI_61, xI_62, xw_X11_brought_0, xw_X11_brought_40, xw_X11_brought_42, zw_lit, xB_c, xB_s, xB_n, i1_c, j2_c, k1_c, jJ_e, xlg, xls, xla, xpd, ppush, zw_m1, zw_m2, zw_m3, gf_6_6, gf_6_9, gf_11_3, tg_11_3, tg_6_6, tg_6_9, gv_221_6, gv_221_9, gv_0_3, xD1, xD2, xD3, xD4, xD5, xD6, xb1_0, e6, z0, z1, s0, s2, b0, b1, b2, b3, t0, t3] at g
          exact no H1 qn g
    · have qn : ¬ ((0 ≤ b ∧ b < S 0 0) ∧ ((0 ≤ s ∧ s < S 0 0) ∨ (12 ≤ s ∧ s < 12 + (tlZ (S 0)).1))) := fun w => qb w.1
      by_cases b0 : 0 ≤ b
      · have b1 : ¬ b ≤ H1 1 2 - 1 := by omega
        have b2 : ¬ b < 0 := by omega
        have b3 : H1 1 2 - 1 < b := by omega
        rcases sx with s0 | ⟨s0, s1⟩
        · have s2 : s < 12 := by omega
          simp (maxDischargeDepth := 12) -implicitDefEqProofs [vb_X11_brought_0, vb_X11_brought_40, vb_X11_brought_42, xI_0, xI_1, xI_3, xI_7, xI_8, xI_15, xI_37, xI_38, xI_49, xI_51, xI_53, xI_60, xI_61, xI_62, xw_X11_brought_0, xw_X11_brought_40, xw_X11_brought_42, zw_lit, xB_c, xB_s, xB_n, i1_c, j2_c, k1_c, jJ_e, xlg, xls, xla, xpd, ppush, zw_m1, zw_m2, zw_m3, gf_6_6, gf_6_9, gf_11_3, tg_11_3, tg_6_6, tg_6_9, gv_221_6, gv_221_9, gv_0_3, xD1, xD2, xD3, xD4, xD5, xD6, xb1_0, e6, z0, z1, s0, s2, b0, b1, b2, b3] at g
          exact no H1 qn g
        · have s2 : ¬ s < 12 := by omega
          have s3 : 11 + (tlZ (S 0)).1 < s := by omega
          simp (maxDischargeDepth := 12) -implicitDefEqProofs [vb_X11_brought_0, vb_X11_brought_40, vb_X11_brought_42, xI_0, xI_1, xI_3, xI_7, xI_8, xI_15, xI_37, xI_38, xI_49, xI_51, xI_53, xI_60, xI_61, xI_62, xw_X11_brought_0, xw_X11_brought_40, xw_X11_brought_42, zw_lit, xB_c, xB_s, xB_n, i1_c, j2_c, k1_c, jJ_e, xlg, xls, xla, xpd, ppush, zw_m1, zw_m2, zw_m3, gf_6_6, gf_6_9, gf_11_3, tg_11_3, tg_6_6, tg_6_9, gv_221_6, gv_221_9, gv_0_3, xD1, xD2, xD3, xD4, xD5, xD6, xb1_0, e6, z0, z1, s0, s1, s2, s3, b0, b1, b2, b3] at g
          exact no H1 qn g
      · have b2 : b < 0 := by omega
        rcases sx with s0 | ⟨s0, s1⟩
        · have s2 : s < 12 := by omega
          simp (maxDischargeDepth := 12) -implicitDefEqProofs [vb_X11_brought_0, vb_X11_brought_40, vb_X11_brought_42, xI_0, xI_1, xI_3, xI_7, xI_8, xI_15, xI_37, xI_38, xI_49, xI_51, xI_53, xI_60, xI_61, xI_62, xw_X11_brought_0, xw_X11_brought_40, xw_X11_brought_42, zw_lit, xB_c, xB_s, xB_n, i1_c, j2_c, k1_c, jJ_e, xlg, xls, xla, xpd, ppush, zw_m1, zw_m2, zw_m3, gf_6_6, gf_6_9, gf_11_3, tg_11_3, tg_6_6, tg_6_9, gv_221_6, gv_221_9, gv_0_3, xD1, xD2, xD3, xD4, xD5, xD6, xb1_0, e6, z0, z1, s0, s2, b0, b2] at g
          exact no H1 qn g
        · have s2 : ¬ s < 12 := by omega
          have s3 : 11 + (tlZ (S 0)).1 < s := by omega
          simp (maxDischargeDepth := 12) -implicitDefEqProofs [vb_X11_brought_0, vb_X11_brought_40, vb_X11_brought_42, xI_0, xI_1, xI_3, xI_7, xI_8, xI_15, xI_37, xI_38, xI_49, xI_51, xI_53, xI_60, xI_61, xI_62, xw_X11_brought_0, xw_X11_brought_40, xw_X11_brought_42, zw_lit, xB_c, xB_s, xB_n, i1_c, j2_c, k1_c, jJ_e, xlg, xls, xla, xpd, ppush, zw_m1, zw_m2, zw_m3, gf_6_6, gf_6_9, gf_11_3, tg_11_3, tg_6_6, tg_6_9, gv_221_6, gv_221_9, gv_0_3, xD1, xD2, xD3, xD4, xD5, xD6, xb1_0, e6, z0, z1, s0, s1, s2, s3, b0, b2] at g
          exact no H1 qn g
