theorem gf_1_2 : gfOK 1 2 = true := by decide +kernel
theorem gf_1_4 : gfOK 1 4 = true := by decide +kernel
theorem gf_11_0 : gfOK 11 0 = true := by decide +kernel
theorem gf_12_0 : gfOK 12 0 = true := by decide +kernel
theorem gf_12_26 : gfOK 12 26 = true := by decide +kernel
def xm_X8_codeOf : List xbT := [(0, vb_X8_codeOf_0, some 18), (18, vb_X8_codeOf_18, some 39), (39, vb_X8_codeOf_39, some 40), (40, vb_X8_codeOf_40, none)]
theorem xc_X8_codeOf : xOK kd_X8_codeOf xm_X8_codeOf := ⟨ve_X8_codeOf_0, ve_X8_codeOf_18, ve_X8_codeOf_39, ve_X8_codeOf_40, trivial⟩
theorem xa_X8_codeOf : xm_X8_codeOf.all (fun q => aOKb q.2.1 && !q.2.1.isEmpty) = true := by decide +kernel
theorem xw_X8_codeOf_0 {E : xE} {res : xR} {N : Nat} {hd : List Nat} {C : xCT} {k : Nat} {L : List Int} {st : List pv} {H : PH} : xW E res N kd_X8_codeOf xm_X8_codeOf hd C (k + 1) 0 L st H = xB (fun t L st H => if t ∈ hd then xJ E res N kd_X8_codeOf t L st H else xW E res N kd_X8_codeOf xm_X8_codeOf hd C k t L st H) (REPR E res) C (some 18) vb_X8_codeOf_0 0 L st H := Eq.trans rfl rfl
theorem xw_X8_codeOf_18 {E : xE} {res : xR} {N : Nat} {hd : List Nat} {C : xCT} {k : Nat} {L : List Int} {st : List pv} {H : PH} : xW E res N kd_X8_codeOf xm_X8_codeOf hd C (k + 1) 18 L st H = xB (fun t L st H => if t ∈ hd then xJ E res N kd_X8_codeOf t L st H else xW E res N kd_X8_codeOf xm_X8_codeOf hd C k t L st H) (REPR E res) C (some 39) vb_X8_codeOf_18 18 L st H := Eq.trans rfl rfl
theorem xw_X8_codeOf_39 {E : xE} {res : xR} {N : Nat} {hd : List Nat} {C : xCT} {k : Nat} {L : List Int} {st : List pv} {H : PH} : xW E res N kd_X8_codeOf xm_X8_codeOf hd C (k + 1) 39 L st H = xB (fun t L st H => if t ∈ hd then xJ E res N kd_X8_codeOf t L st H else xW E res N kd_X8_codeOf xm_X8_codeOf hd C k t L st H) (REPR E res) C (some 40) vb_X8_codeOf_39 39 L st H := Eq.trans rfl rfl
theorem xw_X8_codeOf_40 {E : xE} {res : xR} {N : Nat} {hd : List Nat} {C : xCT} {k : Nat} {L : List Int} {st : List pv} {H : PH} : xW E res N kd_X8_codeOf xm_X8_codeOf hd C (k + 1) 40 L st H = xB (fun t L st H => if t ∈ hd then xJ E res N kd_X8_codeOf t L st H else xW E res N kd_X8_codeOf xm_X8_codeOf hd C k t L st H) (REPR E res) C (none) vb_X8_codeOf_40 40 L st H := Eq.trans rfl rfl
def xm_X12_isSign : List xbT := [(0, vb_X12_isSign_0, some 19), (19, vb_X12_isSign_19, some 23), (23, vb_X12_isSign_23, some 24), (24, vb_X12_isSign_24, none)]
theorem xc_X12_isSign : xOK kd_X12_isSign xm_X12_isSign := ⟨ve_X12_isSign_0, ve_X12_isSign_19, ve_X12_isSign_23, ve_X12_isSign_24, trivial⟩
theorem xa_X12_isSign : xm_X12_isSign.all (fun q => aOKb q.2.1 && !q.2.1.isEmpty) = true := by decide +kernel
theorem xw_X12_isSign_0 {E : xE} {res : xR} {N : Nat} {hd : List Nat} {C : xCT} {k : Nat} {L : List Int} {st : List pv} {H : PH} : xW E res N kd_X12_isSign xm_X12_isSign hd C (k + 1) 0 L st H = xB (fun t L st H => if t ∈ hd then xJ E res N kd_X12_isSign t L st H else xW E res N kd_X12_isSign xm_X12_isSign hd C k t L st H) (REPR E res) C (some 19) vb_X12_isSign_0 0 L st H := Eq.trans rfl rfl
theorem xw_X12_isSign_19 {E : xE} {res : xR} {N : Nat} {hd : List Nat} {C : xCT} {k : Nat} {L : List Int} {st : List pv} {H : PH} : xW E res N kd_X12_isSign xm_X12_isSign hd C (k + 1) 19 L st H = xB (fun t L st H => if t ∈ hd then xJ E res N kd_X12_isSign t L st H else xW E res N kd_X12_isSign xm_X12_isSign hd C k t L st H) (REPR E res) C (some 23) vb_X12_isSign_19 19 L st H := Eq.trans rfl rfl
theorem xw_X12_isSign_23 {E : xE} {res : xR} {N : Nat} {hd : List Nat} {C : xCT} {k : Nat} {L : List Int} {st : List pv} {H : PH} : xW E res N kd_X12_isSign xm_X12_isSign hd C (k + 1) 23 L st H = xB (fun t L st H => if t ∈ hd then xJ E res N kd_X12_isSign t L st H else xW E res N kd_X12_isSign xm_X12_isSign hd C k t L st H) (REPR E res) C (some 24) vb_X12_isSign_23 23 L st H := Eq.trans rfl rfl
theorem xw_X12_isSign_24 {E : xE} {res : xR} {N : Nat} {hd : List Nat} {C : xCT} {k : Nat} {L : List Int} {st : List pv} {H : PH} : xW E res N kd_X12_isSign xm_X12_isSign hd C (k + 1) 24 L st H = xB (fun t L st H => if t ∈ hd then xJ E res N kd_X12_isSign t L st H else xW E res N kd_X12_isSign xm_X12_isSign hd C k t L st H) (REPR E res) C (none) vb_X12_isSign_24 24 L st H := Eq.trans rfl rfl
def xm_X11_isBill : List xbT := [(0, vb_X11_isBill_0, none)]
theorem xc_X11_isBill : xOK kd_X11_isBill xm_X11_isBill := ⟨ve_X11_isBill_0, trivial⟩
theorem xa_X11_isBill : xm_X11_isBill.all (fun q => aOKb q.2.1 && !q.2.1.isEmpty) = true := by decide +kernel
theorem xw_X11_isBill_0 {E : xE} {res : xR} {N : Nat} {hd : List Nat} {C : xCT} {k : Nat} {L : List Int} {st : List pv} {H : PH} : xW E res N kd_X11_isBill xm_X11_isBill hd C (k + 1) 0 L st H = xB (fun t L st H => if t ∈ hd then xJ E res N kd_X11_isBill t L st H else xW E res N kd_X11_isBill xm_X11_isBill hd C k t L st H) (REPR E res) C (none) vb_X11_isBill_0 0 L st H := Eq.trans rfl rfl
def xm_X11_isLine : List xbT := [(0, vb_X11_isLine_0, none)]
theorem xc_X11_isLine : xOK kd_X11_isLine xm_X11_isLine := ⟨ve_X11_isLine_0, trivial⟩
theorem xa_X11_isLine : xm_X11_isLine.all (fun q => aOKb q.2.1 && !q.2.1.isEmpty) = true := by decide +kernel
theorem xw_X11_isLine_0 {E : xE} {res : xR} {N : Nat} {hd : List Nat} {C : xCT} {k : Nat} {L : List Int} {st : List pv} {H : PH} : xW E res N kd_X11_isLine xm_X11_isLine hd C (k + 1) 0 L st H = xB (fun t L st H => if t ∈ hd then xJ E res N kd_X11_isLine t L st H else xW E res N kd_X11_isLine xm_X11_isLine hd C k t L st H) (REPR E res) C (none) vb_X11_isLine_0 0 L st H := Eq.trans rfl rfl
def xm_X11_isHold : List xbT := [(0, vb_X11_isHold_0, none)]
theorem xc_X11_isHold : xOK kd_X11_isHold xm_X11_isHold := ⟨ve_X11_isHold_0, trivial⟩
theorem xa_X11_isHold : xm_X11_isHold.all (fun q => aOKb q.2.1 && !q.2.1.isEmpty) = true := by decide +kernel
theorem xw_X11_isHold_0 {E : xE} {res : xR} {N : Nat} {hd : List Nat} {C : xCT} {k : Nat} {L : List Int} {st : List pv} {H : PH} : xW E res N kd_X11_isHold xm_X11_isHold hd C (k + 1) 0 L st H = xB (fun t L st H => if t ∈ hd then xJ E res N kd_X11_isHold t L st H else xW E res N kd_X11_isHold xm_X11_isHold hd C k t L st H) (REPR E res) C (none) vb_X11_isHold_0 0 L st H := Eq.trans rfl rfl
def xm_X12_isBill : List xbT := [(0, vb_X12_isBill_0, none)]
theorem xc_X12_isBill : xOK kd_X12_isBill xm_X12_isBill := ⟨ve_X12_isBill_0, trivial⟩
theorem xa_X12_isBill : xm_X12_isBill.all (fun q => aOKb q.2.1 && !q.2.1.isEmpty) = true := by decide +kernel
theorem xw_X12_isBill_0 {E : xE} {res : xR} {N : Nat} {hd : List Nat} {C : xCT} {k : Nat} {L : List Int} {st : List pv} {H : PH} : xW E res N kd_X12_isBill xm_X12_isBill hd C (k + 1) 0 L st H = xB (fun t L st H => if t ∈ hd then xJ E res N kd_X12_isBill t L st H else xW E res N kd_X12_isBill xm_X12_isBill hd C k t L st H) (REPR E res) C (none) vb_X12_isBill_0 0 L st H := Eq.trans rfl rfl
def xm_X12_isLine : List xbT := [(0, vb_X12_isLine_0, none)]
theorem xc_X12_isLine : xOK kd_X12_isLine xm_X12_isLine := ⟨ve_X12_isLine_0, trivial⟩
theorem xa_X12_isLine : xm_X12_isLine.all (fun q => aOKb q.2.1 && !q.2.1.isEmpty) = true := by decide +kernel
theorem xw_X12_isLine_0 {E : xE} {res : xR} {N : Nat} {hd : List Nat} {C : xCT} {k : Nat} {L : List Int} {st : List pv} {H : PH} : xW E res N kd_X12_isLine xm_X12_isLine hd C (k + 1) 0 L st H = xB (fun t L st H => if t ∈ hd then xJ E res N kd_X12_isLine t L st H else xW E res N kd_X12_isLine xm_X12_isLine hd C k t L st H) (REPR E res) C (none) vb_X12_isLine_0 0 L st H := Eq.trans rfl rfl
def xm_X12_isHold : List xbT := [(0, vb_X12_isHold_0, none)]
theorem xc_X12_isHold : xOK kd_X12_isHold xm_X12_isHold := ⟨ve_X12_isHold_0, trivial⟩
theorem xa_X12_isHold : xm_X12_isHold.all (fun q => aOKb q.2.1 && !q.2.1.isEmpty) = true := by decide +kernel
theorem xw_X12_isHold_0 {E : xE} {res : xR} {N : Nat} {hd : List Nat} {C : xCT} {k : Nat} {L : List Int} {st : List pv} {H : PH} : xW E res N kd_X12_isHold xm_X12_isHold hd C (k + 1) 0 L st H = xB (fun t L st H => if t ∈ hd then xJ E res N kd_X12_isHold t L st H else xW E res N kd_X12_isHold xm_X12_isHold hd C k t L st H) (REPR E res) C (none) vb_X12_isHold_0 0 L st H := Eq.trans rfl rfl
def xm_X12_bearing : List xbT := [(0, vb_X12_bearing_0, none)]
theorem xc_X12_bearing : xOK kd_X12_bearing xm_X12_bearing := ⟨ve_X12_bearing_0, trivial⟩
theorem xa_X12_bearing : xm_X12_bearing.all (fun q => aOKb q.2.1 && !q.2.1.isEmpty) = true := by decide +kernel
theorem xw_X12_bearing_0 {E : xE} {res : xR} {N : Nat} {hd : List Nat} {C : xCT} {k : Nat} {L : List Int} {st : List pv} {H : PH} : xW E res N kd_X12_bearing xm_X12_bearing hd C (k + 1) 0 L st H = xB (fun t L st H => if t ∈ hd then xJ E res N kd_X12_bearing t L st H else xW E res N kd_X12_bearing xm_X12_bearing hd C k t L st H) (REPR E res) C (none) vb_X12_bearing_0 0 L st H := Eq.trans rfl rfl
def xm_X12_isProductSign : List xbT := [(0, vb_X12_isProductSign_0, some 36), (36, vb_X12_isProductSign_36, some 40), (40, vb_X12_isProductSign_40, some 41), (41, vb_X12_isProductSign_41, none)]
theorem xc_X12_isProductSign : xOK kd_X12_isProductSign xm_X12_isProductSign := ⟨ve_X12_isProductSign_0, ve_X12_isProductSign_36, ve_X12_isProductSign_40, ve_X12_isProductSign_41, trivial⟩
theorem xa_X12_isProductSign : xm_X12_isProductSign.all (fun q => aOKb q.2.1 && !q.2.1.isEmpty) = true := by decide +kernel
theorem xw_X12_isProductSign_0 {E : xE} {res : xR} {N : Nat} {hd : List Nat} {C : xCT} {k : Nat} {L : List Int} {st : List pv} {H : PH} : xW E res N kd_X12_isProductSign xm_X12_isProductSign hd C (k + 1) 0 L st H = xB (fun t L st H => if t ∈ hd then xJ E res N kd_X12_isProductSign t L st H else xW E res N kd_X12_isProductSign xm_X12_isProductSign hd C k t L st H) (REPR E res) C (some 36) vb_X12_isProductSign_0 0 L st H := Eq.trans rfl rfl
theorem xw_X12_isProductSign_36 {E : xE} {res : xR} {N : Nat} {hd : List Nat} {C : xCT} {k : Nat} {L : List Int} {st : List pv} {H : PH} : xW E res N kd_X12_isProductSign xm_X12_isProductSign hd C (k + 1) 36 L st H = xB (fun t L st H => if t ∈ hd then xJ E res N kd_X12_isProductSign t L st H else xW E res N kd_X12_isProductSign xm_X12_isProductSign hd C k t L st H) (REPR E res) C (some 40) vb_X12_isProductSign_36 36 L st H := Eq.trans rfl rfl
theorem xw_X12_isProductSign_40 {E : xE} {res : xR} {N : Nat} {hd : List Nat} {C : xCT} {k : Nat} {L : List Int} {st : List pv} {H : PH} : xW E res N kd_X12_isProductSign xm_X12_isProductSign hd C (k + 1) 40 L st H = xB (fun t L st H => if t ∈ hd then xJ E res N kd_X12_isProductSign t L st H else xW E res N kd_X12_isProductSign xm_X12_isProductSign hd C k t L st H) (REPR E res) C (some 41) vb_X12_isProductSign_40 40 L st H := Eq.trans rfl rfl
theorem xw_X12_isProductSign_41 {E : xE} {res : xR} {N : Nat} {hd : List Nat} {C : xCT} {k : Nat} {L : List Int} {st : List pv} {H : PH} : xW E res N kd_X12_isProductSign xm_X12_isProductSign hd C (k + 1) 41 L st H = xB (fun t L st H => if t ∈ hd then xJ E res N kd_X12_isProductSign t L st H else xW E res N kd_X12_isProductSign xm_X12_isProductSign hd C k t L st H) (REPR E res) C (none) vb_X12_isProductSign_41 41 L st H := Eq.trans rfl rfl
def xm_X12_charge : List xbT := [(0, vb_X12_charge_0, none)]
theorem xc_X12_charge : xOK kd_X12_charge xm_X12_charge := ⟨ve_X12_charge_0, trivial⟩
theorem xa_X12_charge : xm_X12_charge.all (fun q => aOKb q.2.1 && !q.2.1.isEmpty) = true := by decide +kernel
theorem xw_X12_charge_0 {E : xE} {res : xR} {N : Nat} {hd : List Nat} {C : xCT} {k : Nat} {L : List Int} {st : List pv} {H : PH} : xW E res N kd_X12_charge xm_X12_charge hd C (k + 1) 0 L st H = xB (fun t L st H => if t ∈ hd then xJ E res N kd_X12_charge t L st H else xW E res N kd_X12_charge xm_X12_charge hd C k t L st H) (REPR E res) C (none) vb_X12_charge_0 0 L st H := Eq.trans rfl rfl
def xm_X12_isSource : List xbT := [(0, vb_X12_isSource_0, some 20), (20, vb_X12_isSource_20, some 24), (24, vb_X12_isSource_24, some 39), (39, vb_X12_isSource_39, some 40), (40, vb_X12_isSource_40, none)]
theorem xc_X12_isSource : xOK kd_X12_isSource xm_X12_isSource := ⟨ve_X12_isSource_0, ve_X12_isSource_20, ve_X12_isSource_24, ve_X12_isSource_39, ve_X12_isSource_40, trivial⟩
theorem xa_X12_isSource : xm_X12_isSource.all (fun q => aOKb q.2.1 && !q.2.1.isEmpty) = true := by decide +kernel
theorem xw_X12_isSource_0 {E : xE} {res : xR} {N : Nat} {hd : List Nat} {C : xCT} {k : Nat} {L : List Int} {st : List pv} {H : PH} : xW E res N kd_X12_isSource xm_X12_isSource hd C (k + 1) 0 L st H = xB (fun t L st H => if t ∈ hd then xJ E res N kd_X12_isSource t L st H else xW E res N kd_X12_isSource xm_X12_isSource hd C k t L st H) (REPR E res) C (some 20) vb_X12_isSource_0 0 L st H := Eq.trans rfl rfl
theorem xw_X12_isSource_20 {E : xE} {res : xR} {N : Nat} {hd : List Nat} {C : xCT} {k : Nat} {L : List Int} {st : List pv} {H : PH} : xW E res N kd_X12_isSource xm_X12_isSource hd C (k + 1) 20 L st H = xB (fun t L st H => if t ∈ hd then xJ E res N kd_X12_isSource t L st H else xW E res N kd_X12_isSource xm_X12_isSource hd C k t L st H) (REPR E res) C (some 24) vb_X12_isSource_20 20 L st H := Eq.trans rfl rfl
theorem xw_X12_isSource_24 {E : xE} {res : xR} {N : Nat} {hd : List Nat} {C : xCT} {k : Nat} {L : List Int} {st : List pv} {H : PH} : xW E res N kd_X12_isSource xm_X12_isSource hd C (k + 1) 24 L st H = xB (fun t L st H => if t ∈ hd then xJ E res N kd_X12_isSource t L st H else xW E res N kd_X12_isSource xm_X12_isSource hd C k t L st H) (REPR E res) C (some 39) vb_X12_isSource_24 24 L st H := Eq.trans rfl rfl
theorem xw_X12_isSource_39 {E : xE} {res : xR} {N : Nat} {hd : List Nat} {C : xCT} {k : Nat} {L : List Int} {st : List pv} {H : PH} : xW E res N kd_X12_isSource xm_X12_isSource hd C (k + 1) 39 L st H = xB (fun t L st H => if t ∈ hd then xJ E res N kd_X12_isSource t L st H else xW E res N kd_X12_isSource xm_X12_isSource hd C k t L st H) (REPR E res) C (some 40) vb_X12_isSource_39 39 L st H := Eq.trans rfl rfl
theorem xw_X12_isSource_40 {E : xE} {res : xR} {N : Nat} {hd : List Nat} {C : xCT} {k : Nat} {L : List Int} {st : List pv} {H : PH} : xW E res N kd_X12_isSource xm_X12_isSource hd C (k + 1) 40 L st H = xB (fun t L st H => if t ∈ hd then xJ E res N kd_X12_isSource t L st H else xW E res N kd_X12_isSource xm_X12_isSource hd C k t L st H) (REPR E res) C (none) vb_X12_isSource_40 40 L st H := Eq.trans rfl rfl
theorem sp_X8_codeOf (c : Int) (H : PH) : SPEC 73 [(0, c)] H (fun r H' => r = some (0, if 65 ≤ c ∧ c ≤ 90 then zw (zw (c - 65) + 1) else if 48 ≤ c ∧ c ≤ 57 then zw (zw (c - 48) + 27) else 0) ∧ H' = H) := by
  intro E n res h
  have h := call_runP 1 vm_X8_codeOf h
  have h := xw_top (hd := []) 6 xD1_ok xc_X8_codeOf xa_X8_codeOf (t := 0) rfl h
  simp (maxDischargeDepth := 12) -implicitDefEqProofs [vb_X8_codeOf_0, vb_X8_codeOf_18, vb_X8_codeOf_39, vb_X8_codeOf_40, xI_1, xI_7, xI_8, xI_14, xI_15, xI_36, xI_37, xI_60, xI_62, xw_X8_codeOf_0, xw_X8_codeOf_18, xw_X8_codeOf_39, xw_X8_codeOf_40, zw_lit, xB_c, xB_s, xB_n, i1_c, j2_c, k1_c, jJ_e, xlg, xls, xla, xpd, ppush, zw_m1, zw_m2, zw_m3, xD1, xb1] at h
  repeat' (first | (refine Or.elim h ?_ ?_ <;> clear h <;> intro h) | (refine And.elim ?_ h; clear h; intro _ h))
  all_goals refine ⟨_, _, h, ?_, rfl⟩
  all_goals (first | rfl | (congr 2; (repeat' split) <;> first | rfl | omega))
theorem sp_X12_isSign (c : Int) (H : PH) : SPEC 165 [(0, c)] H (fun r H' => r = some (0, xb1 ((48 ≤ c ∧ c ≤ 57) ∨ (65 ≤ c ∧ c ≤ 90))) ∧ H' = H) := by
  intro E n res h
  have h := call_runP 1 vm_X12_isSign h
  have h := xw_top (hd := []) 6 xD1_ok xc_X12_isSign xa_X12_isSign (t := 0) rfl h
  simp (maxDischargeDepth := 12) -implicitDefEqProofs [vb_X12_isSign_0, vb_X12_isSign_19, vb_X12_isSign_23, vb_X12_isSign_24, xI_1, xI_7, xI_8, xI_36, xI_38, xI_45, xI_47, xI_60, xI_62, xw_X12_isSign_0, xw_X12_isSign_19, xw_X12_isSign_23, xw_X12_isSign_24, zw_lit, xB_c, xB_s, xB_n, i1_c, j2_c, k1_c, jJ_e, xlg, xls, xla, xpd, ppush, zw_m1, zw_m2, zw_m3, xD1, xb1] at h
  repeat' (first | (refine Or.elim h ?_ ?_ <;> clear h <;> intro h) | (refine And.elim ?_ h; clear h; intro _ h))
  all_goals refine ⟨_, _, h, ?_, rfl⟩
  all_goals (unfold xb1; congr 2; (repeat' split) <;> first | rfl | omega)
theorem sp_X11_isBill (b : Int) (H : PH) : SPEC 146 [(2, 0), (0, b)] H (fun r H' => r = some (0, xb1 (0 ≤ b ∧ b ≤ zw (H 1 2 - 1))) ∧ H' = H) := by
  intro E n res h
  have h := call_runP 2 vm_X11_isBill h
  have h := xw_top (hd := []) 3 xD1_ok xc_X11_isBill xa_X11_isBill (t := 0) rfl h
  simp (maxDischargeDepth := 12) -implicitDefEqProofs [vb_X11_isBill_0, xI_0, xI_1, xI_7, xI_15, xI_49, xI_60, xI_62, xw_X11_isBill_0, zw_lit, xB_c, xB_s, xB_n, i1_c, j2_c, k1_c, jJ_e, xlg, xls, xla, xpd, ppush, zw_m1, zw_m2, zw_m3, gf_1_2, gf_11_0, tg_11_0, tg_1_2, gv_1_2, gv_0_0, xD1] at h
  repeat' (first | (refine Or.elim h ?_ ?_ <;> clear h <;> intro h) | (refine And.elim ?_ h; clear h; intro _ h))
  all_goals refine ⟨_, _, h, ?_, rfl⟩
  all_goals (first | rfl | (congr 2; (repeat' split) <;> first | rfl | omega))
theorem sp_X11_isLine (b : Int) (H : PH) : SPEC 147 [(2, 0), (0, b)] H (fun r H' => r = some (0, xb1 (0 ≤ b ∧ b ≤ zw (H 1 4 - 1))) ∧ H' = H) := by
  intro E n res h
  have h := call_runP 2 vm_X11_isLine h
  have h := xw_top (hd := []) 3 xD1_ok xc_X11_isLine xa_X11_isLine (t := 0) rfl h
  simp (maxDischargeDepth := 12) -implicitDefEqProofs [vb_X11_isLine_0, xI_0, xI_1, xI_7, xI_15, xI_49, xI_60, xI_62, xw_X11_isLine_0, zw_lit, xB_c, xB_s, xB_n, i1_c, j2_c, k1_c, jJ_e, xlg, xls, xla, xpd, ppush, zw_m1, zw_m2, zw_m3, gf_1_4, gf_11_0, tg_11_0, tg_1_4, gv_1_4, gv_0_0, xD1] at h
  repeat' (first | (refine Or.elim h ?_ ?_ <;> clear h <;> intro h) | (refine And.elim ?_ h; clear h; intro _ h))
  all_goals refine ⟨_, _, h, ?_, rfl⟩
  all_goals (first | rfl | (congr 2; (repeat' split) <;> first | rfl | omega))
theorem sp_X11_isHold (b : Int) (H : PH) : SPEC 148 [(0, b)] H (fun r H' => r = some (0, xb1 (0 ≤ b ∧ b ≤ 4)) ∧ H' = H) := by
  intro E n res h
  have h := call_runP 1 vm_X11_isHold h
  have h := xw_top (hd := []) 3 xD1_ok xc_X11_isHold xa_X11_isHold (t := 0) rfl h
  simp (maxDischargeDepth := 12) -implicitDefEqProofs [vb_X11_isHold_0, xI_1, xI_7, xI_60, xI_62, xw_X11_isHold_0, zw_lit, xB_c, xB_s, xB_n, i1_c, j2_c, k1_c, jJ_e, xlg, xls, xla, xpd, ppush, zw_m1, zw_m2, zw_m3, xD1] at h
  repeat' (first | (refine Or.elim h ?_ ?_ <;> clear h <;> intro h) | (refine And.elim ?_ h; clear h; intro _ h))
  all_goals refine ⟨_, _, h, ?_, rfl⟩
  all_goals (first | rfl | (congr 2; (repeat' split) <;> first | rfl | omega))
theorem sp_X12_isBill (b : Int) (H : PH) : SPEC 198 [(2, 590), (0, b)] H (fun r H' => r = some (0, xb1 (0 ≤ b ∧ b ≤ zw (H 591 0 - 1))) ∧ H' = H) := by
  intro E n res h
  have h := call_runP 2 vm_X12_isBill h
  have h := xw_top (hd := []) 3 xD1_ok xc_X12_isBill xa_X12_isBill (t := 0) rfl h
  simp (maxDischargeDepth := 12) -implicitDefEqProofs [vb_X12_isBill_0, xI_0, xI_1, xI_7, xI_15, xI_49, xI_51, xI_60, xI_62, xw_X12_isBill_0, zw_lit, xB_c, xB_s, xB_n, i1_c, j2_c, k1_c, jJ_e, xlg, xls, xla, xpd, ppush, zw_m1, zw_m2, zw_m3, gf_12_0, tg_12_0, gv_590_0, xD1] at h
  repeat' (first | (refine Or.elim h ?_ ?_ <;> clear h <;> intro h) | (refine And.elim ?_ h; clear h; intro _ h))
  all_goals refine ⟨_, _, h, ?_, rfl⟩
  all_goals (first | rfl | (congr 2; (repeat' split) <;> first | rfl | omega))
theorem sp_X12_isLine (b : Int) (H : PH) : SPEC 199 [(2, 590), (0, b)] H (fun r H' => r = some (0, xb1 (0 ≤ b ∧ b ≤ zw (H 591 2 - 1))) ∧ H' = H) := by
  intro E n res h
  have h := call_runP 2 vm_X12_isLine h
  have h := xw_top (hd := []) 3 xD1_ok xc_X12_isLine xa_X12_isLine (t := 0) rfl h
  simp (maxDischargeDepth := 12) -implicitDefEqProofs [vb_X12_isLine_0, xI_0, xI_1, xI_7, xI_15, xI_49, xI_51, xI_60, xI_62, xw_X12_isLine_0, zw_lit, xB_c, xB_s, xB_n, i1_c, j2_c, k1_c, jJ_e, xlg, xls, xla, xpd, ppush, zw_m1, zw_m2, zw_m3, gf_12_0, tg_12_0, gv_590_0, xD1] at h
  repeat' (first | (refine Or.elim h ?_ ?_ <;> clear h <;> intro h) | (refine And.elim ?_ h; clear h; intro _ h))
  all_goals refine ⟨_, _, h, ?_, rfl⟩
  all_goals (first | rfl | (congr 2; (repeat' split) <;> first | rfl | omega))
theorem sp_X12_isHold (b : Int) (H : PH) : SPEC 240 [(0, b)] H (fun r H' => r = some (0, xb1 (0 ≤ b ∧ b ≤ 4)) ∧ H' = H) := by
  intro E n res h
  have h := call_runP 1 vm_X12_isHold h
  have h := xw_top (hd := []) 3 xD1_ok xc_X12_isHold xa_X12_isHold (t := 0) rfl h
  simp (maxDischargeDepth := 12) -implicitDefEqProofs [vb_X12_isHold_0, xI_1, xI_7, xI_60, xI_62, xw_X12_isHold_0, zw_lit, xB_c, xB_s, xB_n, i1_c, j2_c, k1_c, jJ_e, xlg, xls, xla, xpd, ppush, zw_m1, zw_m2, zw_m3, xD1] at h
  repeat' (first | (refine Or.elim h ?_ ?_ <;> clear h <;> intro h) | (refine And.elim ?_ h; clear h; intro _ h))
  all_goals refine ⟨_, _, h, ?_, rfl⟩
  all_goals (first | rfl | (congr 2; (repeat' split) <;> first | rfl | omega))
theorem sp_X12_bearing (k : Int) (H : PH) : SPEC 236 [(2, 590), (0, k)] H (fun r H' => r = some (0, H 591 (zw (zw (404 + zw (12 * k)) + 2))) ∧ H' = H) := by
  intro E n res h
  have h := call_runP 2 vm_X12_bearing h
  have h := xw_top (hd := []) 3 xD1_ok xc_X12_bearing xa_X12_bearing (t := 0) rfl h
  simp (maxDischargeDepth := 12) -implicitDefEqProofs [vb_X12_bearing_0, xI_0, xI_1, xI_7, xI_14, xI_49, xI_51, xI_60, xI_62, xw_X12_bearing_0, zw_lit, xB_c, xB_s, xB_n, i1_c, j2_c, k1_c, jJ_e, xlg, xls, xla, xpd, ppush, zw_m1, zw_m2, zw_m3, gf_12_0, tg_12_0, gv_590_0, xD1] at h
  repeat' (first | (refine Or.elim h ?_ ?_ <;> clear h <;> intro h) | (refine And.elim ?_ h; clear h; intro _ h))
  all_goals refine ⟨_, _, h, ?_, rfl⟩
  all_goals (first | rfl | (congr 2; (repeat' split) <;> first | rfl | omega))
theorem sp_X12_isProductSign (H : PH) : SPEC 186 [(2, 590)] H (fun r H' => r = some (0, xb1 (heV H = 42 ∨ heV H = 47 ∨ heV H = 60 ∨ heV H = 62)) ∧ H' = H) := by
  intro E n res h
  have h := call_runP 1 vm_X12_isProductSign h
  have h := xw_top (hd := []) 6 xD1_ok xc_X12_isProductSign xa_X12_isProductSign (t := 0) rfl h
  simp (maxDischargeDepth := 12) -implicitDefEqProofs [vb_X12_isProductSign_0, vb_X12_isProductSign_36, vb_X12_isProductSign_40, vb_X12_isProductSign_41, xI_0, xI_7, xI_8, xI_36, xI_43, xI_44, xI_61, xI_62, xw_X12_isProductSign_0, xw_X12_isProductSign_36, xw_X12_isProductSign_40, xw_X12_isProductSign_41, zw_lit, xB_c, xB_s, xB_n, i1_c, j2_c, k1_c, jJ_e, xlg, xls, xla, xpd, ppush, zw_m1, zw_m2, zw_m3, xD1] at h
  repeat' (first | (refine Or.elim h ?_ ?_ <;> clear h <;> intro h) | (refine And.elim ?_ h; clear h; intro _ h))
  all_goals refine ⟨_, _, h, ?_, rfl⟩
  all_goals (unfold xb1; congr 2; (repeat' split) <;> first | rfl | omega)
theorem sp_X12_charge (H : PH) : SPEC 254 [(2, 590)] H (fun r H' => r = some (0, zw (max 0 (zw (H 591 8 - H 591 6)) * H 591 7)) ∧ H' = H) := by
  intro E n res h
  have h := call_runP 1 vm_X12_charge h
  have h := xw_top (hd := []) 3 xD1_ok xc_X12_charge xa_X12_charge (t := 0) rfl h
  simp (maxDischargeDepth := 12) -implicitDefEqProofs [vb_X12_charge_0, xI_0, xI_7, xI_8, xI_15, xI_16, xI_49, xI_51, xI_60, xI_62, xw_X12_charge_0, zw_lit, xB_c, xB_s, xB_n, i1_c, j2_c, k1_c, jJ_e, xlg, xls, xla, xpd, ppush, zw_m1, zw_m2, zw_m3, gf_12_0, tg_12_0, gv_590_0, xD1] at h
  repeat' (first | (refine Or.elim h ?_ ?_ <;> clear h <;> intro h) | (refine And.elim ?_ h; clear h; intro _ h))
  all_goals refine ⟨_, _, h, ?_, rfl⟩
  all_goals (first | rfl | (congr 2; (repeat' split) <;> first | rfl | omega))
theorem sp_X12_isSource (s : Int) (H : PH) : SPEC 214 [(2, 590), (0, s)] H (fun r H' => r = some (0, xb1 (if s < 12 then s < H 591 0 else s < zw (12 + H 590 26))) ∧ H' = H) := by
  intro E n res h
  have h := call_runP 2 vm_X12_isSource h
  have h := xw_top (hd := []) 7 xD1_ok xc_X12_isSource xa_X12_isSource (t := 0) rfl h
  simp (maxDischargeDepth := 12) -implicitDefEqProofs [vb_X12_isSource_0, vb_X12_isSource_20, vb_X12_isSource_24, vb_X12_isSource_39, vb_X12_isSource_40, xI_0, xI_1, xI_7, xI_8, xI_14, xI_36, xI_46, xI_49, xI_51, xI_62, xw_X12_isSource_0, xw_X12_isSource_20, xw_X12_isSource_24, xw_X12_isSource_39, xw_X12_isSource_40, zw_lit, xB_c, xB_s, xB_n, i1_c, j2_c, k1_c, jJ_e, xlg, xls, xla, xpd, ppush, zw_m1, zw_m2, zw_m3, gf_12_0, gf_12_26, tg_12_0, tg_12_26, gv_590_0, gv_590_26, xD1] at h
  repeat' (first | (refine Or.elim h ?_ ?_ <;> clear h <;> intro h) | (refine And.elim ?_ h; clear h; intro _ h))
  all_goals refine ⟨_, _, h, ?_, rfl⟩
  all_goals (unfold xb1; congr 2; (repeat' split) <;> first | rfl | omega)
def xD2 (E : xE) (n mj : Nat) (as : List pv) (H : PH) (K : Option pv → PH → Prop) : Prop := match mj with
  | 73 => ∀ c, as = [(0, c)] → K (some (0, (if 65 ≤ c ∧ c ≤ 90 then zw (zw (c - 65) + 1) else if 48 ≤ c ∧ c ≤ 57 then zw (zw (c - 48) + 27) else 0))) H
  | 146 => ∀ b, as = [(2, 0), (0, b)] → K (some (0, xb1 (0 ≤ b ∧ b ≤ zw (H 1 2 - 1)))) H
  | 147 => ∀ b, as = [(2, 0), (0, b)] → K (some (0, xb1 (0 ≤ b ∧ b ≤ zw (H 1 4 - 1)))) H
  | 148 => ∀ b, as = [(0, b)] → K (some (0, xb1 (0 ≤ b ∧ b ≤ 4))) H
  | 165 => ∀ c, as = [(0, c)] → K (some (0, xb1 ((48 ≤ c ∧ c ≤ 57) ∨ (65 ≤ c ∧ c ≤ 90)))) H
  | 186 => as = [(2, 590)] → K (some (0, xb1 (heV H = 42 ∨ heV H = 47 ∨ heV H = 60 ∨ heV H = 62))) H
  | 198 => ∀ b, as = [(2, 590), (0, b)] → K (some (0, xb1 (0 ≤ b ∧ b ≤ zw (H 591 0 - 1)))) H
  | 199 => ∀ b, as = [(2, 590), (0, b)] → K (some (0, xb1 (0 ≤ b ∧ b ≤ zw (H 591 2 - 1)))) H
  | 214 => ∀ s, as = [(2, 590), (0, s)] → K (some (0, xb1 (if s < 12 then s < H 591 0 else s < zw (12 + H 590 26)))) H
  | 236 => ∀ k, as = [(2, 590), (0, k)] → K (some (0, H 591 (zw (zw (404 + zw (12 * k)) + 2)))) H
  | 240 => ∀ b, as = [(0, b)] → K (some (0, xb1 (0 ≤ b ∧ b ≤ 4))) H
  | 254 => as = [(2, 590)] → K (some (0, zw (max 0 (zw (H 591 8 - H 591 6)) * H 591 7))) H
  | _ => xD1 E n mj as H K
theorem xD2_ok {E : xE} {n : Nat} : xCC E n (xD2 E n) := by
  intro mj as H K h
  unfold xD2
  split
  · intro c e
    subst e
    obtain ⟨r, H2, ⟨rfl, rfl⟩, g⟩ := xc_use h (sp_X8_codeOf c H)
    exact g
  · intro b e
    subst e
    obtain ⟨r, H2, ⟨rfl, rfl⟩, g⟩ := xc_use h (sp_X11_isBill b H)
    exact g
  · intro b e
    subst e
    obtain ⟨r, H2, ⟨rfl, rfl⟩, g⟩ := xc_use h (sp_X11_isLine b H)
    exact g
  · intro b e
    subst e
    obtain ⟨r, H2, ⟨rfl, rfl⟩, g⟩ := xc_use h (sp_X11_isHold b H)
    exact g
  · intro c e
    subst e
    obtain ⟨r, H2, ⟨rfl, rfl⟩, g⟩ := xc_use h (sp_X12_isSign c H)
    exact g
  · intro  e
    subst e
    obtain ⟨r, H2, ⟨rfl, rfl⟩, g⟩ := xc_use h (sp_X12_isProductSign  H)
    exact g
  · intro b e
    subst e
    obtain ⟨r, H2, ⟨rfl, rfl⟩, g⟩ := xc_use h (sp_X12_isBill b H)
    exact g
  · intro b e
    subst e
    obtain ⟨r, H2, ⟨rfl, rfl⟩, g⟩ := xc_use h (sp_X12_isLine b H)
    exact g
  · intro s e
    subst e
    obtain ⟨r, H2, ⟨rfl, rfl⟩, g⟩ := xc_use h (sp_X12_isSource s H)
    exact g
  · intro k e
    subst e
    obtain ⟨r, H2, ⟨rfl, rfl⟩, g⟩ := xc_use h (sp_X12_bearing k H)
    exact g
  · intro b e
    subst e
    obtain ⟨r, H2, ⟨rfl, rfl⟩, g⟩ := xc_use h (sp_X12_isHold b H)
    exact g
  · intro  e
    subst e
    obtain ⟨r, H2, ⟨rfl, rfl⟩, g⟩ := xc_use h (sp_X12_charge  H)
    exact g
  · exact xD1_ok _ _ _ _ h
