theorem gf_4_0 : gfOK 4 0 = true := by decide +kernel
theorem gf_4_1 : gfOK 4 1 = true := by decide +kernel
theorem gf_4_2 : gfOK 4 2 = true := by decide +kernel
def xm_X4_join : List xbT := [(0, vb_X4_join_0, some 52), (52, vb_X4_join_52, some 56), (56, vb_X4_join_56, some 60), (60, vb_X4_join_60, some 64), (64, vb_X4_join_64, some 72), (72, vb_X4_join_72, some 75), (75, vb_X4_join_75, some 76), (76, vb_X4_join_76, some 82), (82, vb_X4_join_82, none)]
theorem xc_X4_join : xOK kd_X4_join xm_X4_join := ⟨ve_X4_join_0, ve_X4_join_52, ve_X4_join_56, ve_X4_join_60, ve_X4_join_64, ve_X4_join_72, ve_X4_join_75, ve_X4_join_76, ve_X4_join_82, trivial⟩
theorem xa_X4_join : xm_X4_join.all (fun q => aOKb q.2.1 && !q.2.1.isEmpty) = true := by decide +kernel
theorem xw_X4_join_0 {E : xE} {res : xR} {N : Nat} {hd : List Nat} {C : xCT} {k : Nat} {L : List Int} {st : List pv} {H : PH} : xW E res N kd_X4_join xm_X4_join hd C (k + 1) 0 L st H = xB (fun t L st H => if t ∈ hd then xJ E res N kd_X4_join t L st H else xW E res N kd_X4_join xm_X4_join hd C k t L st H) (REPR E res) C (some 52) vb_X4_join_0 0 L st H := Eq.trans rfl rfl
theorem xw_X4_join_52 {E : xE} {res : xR} {N : Nat} {hd : List Nat} {C : xCT} {k : Nat} {L : List Int} {st : List pv} {H : PH} : xW E res N kd_X4_join xm_X4_join hd C (k + 1) 52 L st H = xB (fun t L st H => if t ∈ hd then xJ E res N kd_X4_join t L st H else xW E res N kd_X4_join xm_X4_join hd C k t L st H) (REPR E res) C (some 56) vb_X4_join_52 52 L st H := Eq.trans rfl rfl
theorem xw_X4_join_56 {E : xE} {res : xR} {N : Nat} {hd : List Nat} {C : xCT} {k : Nat} {L : List Int} {st : List pv} {H : PH} : xW E res N kd_X4_join xm_X4_join hd C (k + 1) 56 L st H = xB (fun t L st H => if t ∈ hd then xJ E res N kd_X4_join t L st H else xW E res N kd_X4_join xm_X4_join hd C k t L st H) (REPR E res) C (some 60) vb_X4_join_56 56 L st H := Eq.trans rfl rfl
theorem xw_X4_join_60 {E : xE} {res : xR} {N : Nat} {hd : List Nat} {C : xCT} {k : Nat} {L : List Int} {st : List pv} {H : PH} : xW E res N kd_X4_join xm_X4_join hd C (k + 1) 60 L st H = xB (fun t L st H => if t ∈ hd then xJ E res N kd_X4_join t L st H else xW E res N kd_X4_join xm_X4_join hd C k t L st H) (REPR E res) C (some 64) vb_X4_join_60 60 L st H := Eq.trans rfl rfl
theorem xw_X4_join_64 {E : xE} {res : xR} {N : Nat} {hd : List Nat} {C : xCT} {k : Nat} {L : List Int} {st : List pv} {H : PH} : xW E res N kd_X4_join xm_X4_join hd C (k + 1) 64 L st H = xB (fun t L st H => if t ∈ hd then xJ E res N kd_X4_join t L st H else xW E res N kd_X4_join xm_X4_join hd C k t L st H) (REPR E res) C (some 72) vb_X4_join_64 64 L st H := Eq.trans rfl rfl
theorem xw_X4_join_72 {E : xE} {res : xR} {N : Nat} {hd : List Nat} {C : xCT} {k : Nat} {L : List Int} {st : List pv} {H : PH} : xW E res N kd_X4_join xm_X4_join hd C (k + 1) 72 L st H = xB (fun t L st H => if t ∈ hd then xJ E res N kd_X4_join t L st H else xW E res N kd_X4_join xm_X4_join hd C k t L st H) (REPR E res) C (some 75) vb_X4_join_72 72 L st H := Eq.trans rfl rfl
theorem xw_X4_join_75 {E : xE} {res : xR} {N : Nat} {hd : List Nat} {C : xCT} {k : Nat} {L : List Int} {st : List pv} {H : PH} : xW E res N kd_X4_join xm_X4_join hd C (k + 1) 75 L st H = xB (fun t L st H => if t ∈ hd then xJ E res N kd_X4_join t L st H else xW E res N kd_X4_join xm_X4_join hd C k t L st H) (REPR E res) C (some 76) vb_X4_join_75 75 L st H := Eq.trans rfl rfl
theorem xw_X4_join_76 {E : xE} {res : xR} {N : Nat} {hd : List Nat} {C : xCT} {k : Nat} {L : List Int} {st : List pv} {H : PH} : xW E res N kd_X4_join xm_X4_join hd C (k + 1) 76 L st H = xB (fun t L st H => if t ∈ hd then xJ E res N kd_X4_join t L st H else xW E res N kd_X4_join xm_X4_join hd C k t L st H) (REPR E res) C (some 82) vb_X4_join_76 76 L st H := Eq.trans rfl rfl
theorem xw_X4_join_82 {E : xE} {res : xR} {N : Nat} {hd : List Nat} {C : xCT} {k : Nat} {L : List Int} {st : List pv} {H : PH} : xW E res N kd_X4_join xm_X4_join hd C (k + 1) 82 L st H = xB (fun t L st H => if t ∈ hd then xJ E res N kd_X4_join t L st H else xW E res N kd_X4_join xm_X4_join hd C k t L st H) (REPR E res) C (none) vb_X4_join_82 82 L st H := Eq.trans rfl rfl
def xm_X4_valueOf : List xbT := [(0, vb_X4_valueOf_0, some 36), (36, vb_X4_valueOf_36, some 38), (38, vb_X4_valueOf_38, some 40), (40, vb_X4_valueOf_40, some 42), (42, vb_X4_valueOf_42, none)]
theorem xc_X4_valueOf : xOK kd_X4_valueOf xm_X4_valueOf := ⟨ve_X4_valueOf_0, ve_X4_valueOf_36, ve_X4_valueOf_38, ve_X4_valueOf_40, ve_X4_valueOf_42, trivial⟩
theorem xa_X4_valueOf : xm_X4_valueOf.all (fun q => aOKb q.2.1 && !q.2.1.isEmpty) = true := by decide +kernel
theorem xw_X4_valueOf_0 {E : xE} {res : xR} {N : Nat} {hd : List Nat} {C : xCT} {k : Nat} {L : List Int} {st : List pv} {H : PH} : xW E res N kd_X4_valueOf xm_X4_valueOf hd C (k + 1) 0 L st H = xB (fun t L st H => if t ∈ hd then xJ E res N kd_X4_valueOf t L st H else xW E res N kd_X4_valueOf xm_X4_valueOf hd C k t L st H) (REPR E res) C (some 36) vb_X4_valueOf_0 0 L st H := Eq.trans rfl rfl
theorem xw_X4_valueOf_36 {E : xE} {res : xR} {N : Nat} {hd : List Nat} {C : xCT} {k : Nat} {L : List Int} {st : List pv} {H : PH} : xW E res N kd_X4_valueOf xm_X4_valueOf hd C (k + 1) 36 L st H = xB (fun t L st H => if t ∈ hd then xJ E res N kd_X4_valueOf t L st H else xW E res N kd_X4_valueOf xm_X4_valueOf hd C k t L st H) (REPR E res) C (some 38) vb_X4_valueOf_36 36 L st H := Eq.trans rfl rfl
theorem xw_X4_valueOf_38 {E : xE} {res : xR} {N : Nat} {hd : List Nat} {C : xCT} {k : Nat} {L : List Int} {st : List pv} {H : PH} : xW E res N kd_X4_valueOf xm_X4_valueOf hd C (k + 1) 38 L st H = xB (fun t L st H => if t ∈ hd then xJ E res N kd_X4_valueOf t L st H else xW E res N kd_X4_valueOf xm_X4_valueOf hd C k t L st H) (REPR E res) C (some 40) vb_X4_valueOf_38 38 L st H := Eq.trans rfl rfl
theorem xw_X4_valueOf_40 {E : xE} {res : xR} {N : Nat} {hd : List Nat} {C : xCT} {k : Nat} {L : List Int} {st : List pv} {H : PH} : xW E res N kd_X4_valueOf xm_X4_valueOf hd C (k + 1) 40 L st H = xB (fun t L st H => if t ∈ hd then xJ E res N kd_X4_valueOf t L st H else xW E res N kd_X4_valueOf xm_X4_valueOf hd C k t L st H) (REPR E res) C (some 42) vb_X4_valueOf_40 40 L st H := Eq.trans rfl rfl
theorem xw_X4_valueOf_42 {E : xE} {res : xR} {N : Nat} {hd : List Nat} {C : xCT} {k : Nat} {L : List Int} {st : List pv} {H : PH} : xW E res N kd_X4_valueOf xm_X4_valueOf hd C (k + 1) 42 L st H = xB (fun t L st H => if t ∈ hd then xJ E res N kd_X4_valueOf t L st H else xW E res N kd_X4_valueOf xm_X4_valueOf hd C k t L st H) (REPR E res) C (none) vb_X4_valueOf_42 42 L st H := Eq.trans rfl rfl
def xm_X4_agree : List xbT := [(0, vb_X4_agree_0, some 13), (13, vb_X4_agree_13, some 19), (19, vb_X4_agree_19, some 55), (55, vb_X4_agree_55, some 59), (59, vb_X4_agree_59, some 60), (60, vb_X4_agree_60, some 110), (110, vb_X4_agree_110, some 140), (140, vb_X4_agree_140, some 146), (146, vb_X4_agree_146, none)]
theorem xc_X4_agree : xOK kd_X4_agree xm_X4_agree := ⟨ve_X4_agree_0, ve_X4_agree_13, ve_X4_agree_19, ve_X4_agree_55, ve_X4_agree_59, ve_X4_agree_60, ve_X4_agree_110, ve_X4_agree_140, ve_X4_agree_146, trivial⟩
theorem xa_X4_agree : xm_X4_agree.all (fun q => aOKb q.2.1 && !q.2.1.isEmpty) = true := by decide +kernel
theorem xw_X4_agree_0 {E : xE} {res : xR} {N : Nat} {hd : List Nat} {C : xCT} {k : Nat} {L : List Int} {st : List pv} {H : PH} : xW E res N kd_X4_agree xm_X4_agree hd C (k + 1) 0 L st H = xB (fun t L st H => if t ∈ hd then xJ E res N kd_X4_agree t L st H else xW E res N kd_X4_agree xm_X4_agree hd C k t L st H) (REPR E res) C (some 13) vb_X4_agree_0 0 L st H := Eq.trans rfl rfl
theorem xw_X4_agree_13 {E : xE} {res : xR} {N : Nat} {hd : List Nat} {C : xCT} {k : Nat} {L : List Int} {st : List pv} {H : PH} : xW E res N kd_X4_agree xm_X4_agree hd C (k + 1) 13 L st H = xB (fun t L st H => if t ∈ hd then xJ E res N kd_X4_agree t L st H else xW E res N kd_X4_agree xm_X4_agree hd C k t L st H) (REPR E res) C (some 19) vb_X4_agree_13 13 L st H := Eq.trans rfl rfl
theorem xw_X4_agree_19 {E : xE} {res : xR} {N : Nat} {hd : List Nat} {C : xCT} {k : Nat} {L : List Int} {st : List pv} {H : PH} : xW E res N kd_X4_agree xm_X4_agree hd C (k + 1) 19 L st H = xB (fun t L st H => if t ∈ hd then xJ E res N kd_X4_agree t L st H else xW E res N kd_X4_agree xm_X4_agree hd C k t L st H) (REPR E res) C (some 55) vb_X4_agree_19 19 L st H := Eq.trans rfl rfl
theorem xw_X4_agree_55 {E : xE} {res : xR} {N : Nat} {hd : List Nat} {C : xCT} {k : Nat} {L : List Int} {st : List pv} {H : PH} : xW E res N kd_X4_agree xm_X4_agree hd C (k + 1) 55 L st H = xB (fun t L st H => if t ∈ hd then xJ E res N kd_X4_agree t L st H else xW E res N kd_X4_agree xm_X4_agree hd C k t L st H) (REPR E res) C (some 59) vb_X4_agree_55 55 L st H := Eq.trans rfl rfl
theorem xw_X4_agree_59 {E : xE} {res : xR} {N : Nat} {hd : List Nat} {C : xCT} {k : Nat} {L : List Int} {st : List pv} {H : PH} : xW E res N kd_X4_agree xm_X4_agree hd C (k + 1) 59 L st H = xB (fun t L st H => if t ∈ hd then xJ E res N kd_X4_agree t L st H else xW E res N kd_X4_agree xm_X4_agree hd C k t L st H) (REPR E res) C (some 60) vb_X4_agree_59 59 L st H := Eq.trans rfl rfl
theorem xw_X4_agree_60 {E : xE} {res : xR} {N : Nat} {hd : List Nat} {C : xCT} {k : Nat} {L : List Int} {st : List pv} {H : PH} : xW E res N kd_X4_agree xm_X4_agree hd C (k + 1) 60 L st H = xB (fun t L st H => if t ∈ hd then xJ E res N kd_X4_agree t L st H else xW E res N kd_X4_agree xm_X4_agree hd C k t L st H) (REPR E res) C (some 110) vb_X4_agree_60 60 L st H := Eq.trans rfl rfl
theorem xw_X4_agree_110 {E : xE} {res : xR} {N : Nat} {hd : List Nat} {C : xCT} {k : Nat} {L : List Int} {st : List pv} {H : PH} : xW E res N kd_X4_agree xm_X4_agree hd C (k + 1) 110 L st H = xB (fun t L st H => if t ∈ hd then xJ E res N kd_X4_agree t L st H else xW E res N kd_X4_agree xm_X4_agree hd C k t L st H) (REPR E res) C (some 140) vb_X4_agree_110 110 L st H := Eq.trans rfl rfl
theorem xw_X4_agree_140 {E : xE} {res : xR} {N : Nat} {hd : List Nat} {C : xCT} {k : Nat} {L : List Int} {st : List pv} {H : PH} : xW E res N kd_X4_agree xm_X4_agree hd C (k + 1) 140 L st H = xB (fun t L st H => if t ∈ hd then xJ E res N kd_X4_agree t L st H else xW E res N kd_X4_agree xm_X4_agree hd C k t L st H) (REPR E res) C (some 146) vb_X4_agree_140 140 L st H := Eq.trans rfl rfl
theorem xw_X4_agree_146 {E : xE} {res : xR} {N : Nat} {hd : List Nat} {C : xCT} {k : Nat} {L : List Int} {st : List pv} {H : PH} : xW E res N kd_X4_agree xm_X4_agree hd C (k + 1) 146 L st H = xB (fun t L st H => if t ∈ hd then xJ E res N kd_X4_agree t L st H else xW E res N kd_X4_agree xm_X4_agree hd C k t L st H) (REPR E res) C (none) vb_X4_agree_146 146 L st H := Eq.trans rfl rfl
def jnV (s x y : Int) : Int := if s = 43 then zw (x + y) else if s = 45 then zw (x - y) else if s = 42 then zw (x * y) else if s = 47 then (if y = 0 then 0 else q2 (· / ·) x y) else if s = 60 then min x y else max x y
theorem sgn6 (s : Int) : s = 42 ∨ s = 43 ∨ s = 45 ∨ s = 47 ∨ s = 60 ∨ (¬ s = 42 ∧ ¬ s = 43 ∧ ¬ s = 45 ∧ ¬ s = 47 ∧ ¬ s = 60) := by omega
theorem sp_X12_joined (s x y : Int) (H : PH) : SPEC 190 [(0, s), (0, x), (0, y)] H (fun r H' => r = some (0, jnV s x y) ∧ H' = H) := by
  intro E n res h
  rcases sgn6 s with rfl | rfl | rfl | rfl | rfl | ⟨c1, c2, c3, c4, c5⟩
  · skip
    have h := call_runP 3 vm_X12_joined h
    have h := xw_top (hd := []) 15 xD4_ok xc_X12_joined xa_X12_joined (t := 0) rfl h
    simp (maxDischargeDepth := 12) -implicitDefEqProofs [vb_X12_joined_0, vb_X12_joined_52, vb_X12_joined_56, vb_X12_joined_60, vb_X12_joined_64, vb_X12_joined_72, vb_X12_joined_75, vb_X12_joined_76, vb_X12_joined_85, vb_X12_joined_86, vb_X12_joined_87, vb_X12_joined_96, vb_X12_joined_97, xI_1, xI_7, xI_14, xI_15, xI_16, xI_17, xI_36, xI_38, xI_46, xI_48, xI_62, xI_109, xw_X12_joined_0, xw_X12_joined_52, xw_X12_joined_56, xw_X12_joined_60, xw_X12_joined_64, xw_X12_joined_72, xw_X12_joined_75, xw_X12_joined_76, xw_X12_joined_85, xw_X12_joined_86, xw_X12_joined_87, xw_X12_joined_96, xw_X12_joined_97, zw_lit, xB_c, xB_s, xB_n, i1_c, j2_c, k1_c, jJ_e, xlg, xls, xla, xpd, ppush, zw_m1, zw_m2, zw_m3, xD1, xD2, xD3, xD4, ptl, Op.lookupswitch.offset] at h
    repeat' (first | (refine Or.elim h ?_ ?_ <;> clear h <;> intro h) | (refine And.elim ?_ h; clear h; intro _ h))
    all_goals refine ⟨_, H, h, ?_, rfl⟩
    all_goals (unfold jnV; simp [*] <;> omega)
  · skip
    have h := call_runP 3 vm_X12_joined h
    have h := xw_top (hd := []) 15 xD4_ok xc_X12_joined xa_X12_joined (t := 0) rfl h
    simp (maxDischargeDepth := 12) -implicitDefEqProofs [vb_X12_joined_0, vb_X12_joined_52, vb_X12_joined_56, vb_X12_joined_60, vb_X12_joined_64, vb_X12_joined_72, vb_X12_joined_75, vb_X12_joined_76, vb_X12_joined_85, vb_X12_joined_86, vb_X12_joined_87, vb_X12_joined_96, vb_X12_joined_97, xI_1, xI_7, xI_14, xI_15, xI_16, xI_17, xI_36, xI_38, xI_46, xI_48, xI_62, xI_109, xw_X12_joined_0, xw_X12_joined_52, xw_X12_joined_56, xw_X12_joined_60, xw_X12_joined_64, xw_X12_joined_72, xw_X12_joined_75, xw_X12_joined_76, xw_X12_joined_85, xw_X12_joined_86, xw_X12_joined_87, xw_X12_joined_96, xw_X12_joined_97, zw_lit, xB_c, xB_s, xB_n, i1_c, j2_c, k1_c, jJ_e, xlg, xls, xla, xpd, ppush, zw_m1, zw_m2, zw_m3, xD1, xD2, xD3, xD4, ptl, Op.lookupswitch.offset] at h
    repeat' (first | (refine Or.elim h ?_ ?_ <;> clear h <;> intro h) | (refine And.elim ?_ h; clear h; intro _ h))
    all_goals refine ⟨_, H, h, ?_, rfl⟩
    all_goals (unfold jnV; simp [*] <;> omega)
  · skip
    have h := call_runP 3 vm_X12_joined h
    have h := xw_top (hd := []) 15 xD4_ok xc_X12_joined xa_X12_joined (t := 0) rfl h
    simp (maxDischargeDepth := 12) -implicitDefEqProofs [vb_X12_joined_0, vb_X12_joined_52, vb_X12_joined_56, vb_X12_joined_60, vb_X12_joined_64, vb_X12_joined_72, vb_X12_joined_75, vb_X12_joined_76, vb_X12_joined_85, vb_X12_joined_86, vb_X12_joined_87, vb_X12_joined_96, vb_X12_joined_97, xI_1, xI_7, xI_14, xI_15, xI_16, xI_17, xI_36, xI_38, xI_46, xI_48, xI_62, xI_109, xw_X12_joined_0, xw_X12_joined_52, xw_X12_joined_56, xw_X12_joined_60, xw_X12_joined_64, xw_X12_joined_72, xw_X12_joined_75, xw_X12_joined_76, xw_X12_joined_85, xw_X12_joined_86, xw_X12_joined_87, xw_X12_joined_96, xw_X12_joined_97, zw_lit, xB_c, xB_s, xB_n, i1_c, j2_c, k1_c, jJ_e, xlg, xls, xla, xpd, ppush, zw_m1, zw_m2, zw_m3, xD1, xD2, xD3, xD4, ptl, Op.lookupswitch.offset] at h
    repeat' (first | (refine Or.elim h ?_ ?_ <;> clear h <;> intro h) | (refine And.elim ?_ h; clear h; intro _ h))
    all_goals refine ⟨_, H, h, ?_, rfl⟩
    all_goals (unfold jnV; simp [*] <;> omega)
  · skip
    have h := call_runP 3 vm_X12_joined h
    have h := xw_top (hd := []) 15 xD4_ok xc_X12_joined xa_X12_joined (t := 0) rfl h
    simp (maxDischargeDepth := 12) -implicitDefEqProofs [vb_X12_joined_0, vb_X12_joined_52, vb_X12_joined_56, vb_X12_joined_60, vb_X12_joined_64, vb_X12_joined_72, vb_X12_joined_75, vb_X12_joined_76, vb_X12_joined_85, vb_X12_joined_86, vb_X12_joined_87, vb_X12_joined_96, vb_X12_joined_97, xI_1, xI_7, xI_14, xI_15, xI_16, xI_17, xI_36, xI_38, xI_46, xI_48, xI_62, xI_109, xw_X12_joined_0, xw_X12_joined_52, xw_X12_joined_56, xw_X12_joined_60, xw_X12_joined_64, xw_X12_joined_72, xw_X12_joined_75, xw_X12_joined_76, xw_X12_joined_85, xw_X12_joined_86, xw_X12_joined_87, xw_X12_joined_96, xw_X12_joined_97, zw_lit, xB_c, xB_s, xB_n, i1_c, j2_c, k1_c, jJ_e, xlg, xls, xla, xpd, ppush, zw_m1, zw_m2, zw_m3, xD1, xD2, xD3, xD4, ptl, Op.lookupswitch.offset] at h
    repeat' (first | (refine Or.elim h ?_ ?_ <;> clear h <;> intro h) | (refine And.elim ?_ h; clear h; intro _ h))
    all_goals refine ⟨_, H, h, ?_, rfl⟩
    all_goals (unfold jnV; simp [*] <;> omega)
  · skip
    have h := call_runP 3 vm_X12_joined h
    have h := xw_top (hd := []) 15 xD4_ok xc_X12_joined xa_X12_joined (t := 0) rfl h
    simp (maxDischargeDepth := 12) -implicitDefEqProofs [vb_X12_joined_0, vb_X12_joined_52, vb_X12_joined_56, vb_X12_joined_60, vb_X12_joined_64, vb_X12_joined_72, vb_X12_joined_75, vb_X12_joined_76, vb_X12_joined_85, vb_X12_joined_86, vb_X12_joined_87, vb_X12_joined_96, vb_X12_joined_97, xI_1, xI_7, xI_14, xI_15, xI_16, xI_17, xI_36, xI_38, xI_46, xI_48, xI_62, xI_109, xw_X12_joined_0, xw_X12_joined_52, xw_X12_joined_56, xw_X12_joined_60, xw_X12_joined_64, xw_X12_joined_72, xw_X12_joined_75, xw_X12_joined_76, xw_X12_joined_85, xw_X12_joined_86, xw_X12_joined_87, xw_X12_joined_96, xw_X12_joined_97, zw_lit, xB_c, xB_s, xB_n, i1_c, j2_c, k1_c, jJ_e, xlg, xls, xla, xpd, ppush, zw_m1, zw_m2, zw_m3, xD1, xD2, xD3, xD4, ptl, Op.lookupswitch.offset] at h
    repeat' (first | (refine Or.elim h ?_ ?_ <;> clear h <;> intro h) | (refine And.elim ?_ h; clear h; intro _ h))
    all_goals refine ⟨_, H, h, ?_, rfl⟩
    all_goals (unfold jnV; simp [*] <;> omega)
  · skip
    have g1 : ¬ 42 = s := fun e => c1 e.symm
    have g2 : ¬ 43 = s := fun e => c2 e.symm
    have g3 : ¬ 45 = s := fun e => c3 e.symm
    have g4 : ¬ 47 = s := fun e => c4 e.symm
    have g5 : ¬ 60 = s := fun e => c5 e.symm
    have h := call_runP 3 vm_X12_joined h
    have h := xw_top (hd := []) 15 xD4_ok xc_X12_joined xa_X12_joined (t := 0) rfl h
    simp (maxDischargeDepth := 12) -implicitDefEqProofs [vb_X12_joined_0, vb_X12_joined_52, vb_X12_joined_56, vb_X12_joined_60, vb_X12_joined_64, vb_X12_joined_72, vb_X12_joined_75, vb_X12_joined_76, vb_X12_joined_85, vb_X12_joined_86, vb_X12_joined_87, vb_X12_joined_96, vb_X12_joined_97, xI_1, xI_7, xI_14, xI_15, xI_16, xI_17, xI_36, xI_38, xI_46, xI_48, xI_62, xI_109, xw_X12_joined_0, xw_X12_joined_52, xw_X12_joined_56, xw_X12_joined_60, xw_X12_joined_64, xw_X12_joined_72, xw_X12_joined_75, xw_X12_joined_76, xw_X12_joined_85, xw_X12_joined_86, xw_X12_joined_87, xw_X12_joined_96, xw_X12_joined_97, zw_lit, xB_c, xB_s, xB_n, i1_c, j2_c, k1_c, jJ_e, xlg, xls, xla, xpd, ppush, zw_m1, zw_m2, zw_m3, xD1, xD2, xD3, xD4, ptl, Op.lookupswitch.offset, g1, g2, g3, g4, g5] at h
    repeat' (first | (refine Or.elim h ?_ ?_ <;> clear h <;> intro h) | (refine And.elim ?_ h; clear h; intro _ h))
    all_goals refine ⟨_, H, h, ?_, rfl⟩
    all_goals (unfold jnV; simp [*] <;> omega)
theorem sp_X4_join (s x y : Int) (H : PH) : SPEC 53 [(0, s), (0, x), (0, y)] H (fun r H' => r = some (0, jnV s x y) ∧ H' = H) := by
  intro E n res h
  rcases sgn6 s with rfl | rfl | rfl | rfl | rfl | ⟨c1, c2, c3, c4, c5⟩
  · skip
    have h := call_runP 3 vm_X4_join h
    have h := xw_top (hd := []) 11 xD4_ok xc_X4_join xa_X4_join (t := 0) rfl h
    simp (maxDischargeDepth := 12) -implicitDefEqProofs [vb_X4_join_0, vb_X4_join_52, vb_X4_join_56, vb_X4_join_60, vb_X4_join_64, vb_X4_join_72, vb_X4_join_75, vb_X4_join_76, vb_X4_join_82, xI_1, xI_7, xI_14, xI_15, xI_16, xI_17, xI_36, xI_38, xI_55, xI_56, xI_62, xI_102, xw_X4_join_0, xw_X4_join_52, xw_X4_join_56, xw_X4_join_60, xw_X4_join_64, xw_X4_join_72, xw_X4_join_75, xw_X4_join_76, xw_X4_join_82, zw_lit, xB_c, xB_s, xB_n, i1_c, j2_c, k1_c, jJ_e, xlg, xls, xla, xpd, ppush, zw_m1, zw_m2, zw_m3, xD1, xD2, xD3, xD4, ptl, Op.lookupswitch.offset] at h
    repeat' (first | (refine Or.elim h ?_ ?_ <;> clear h <;> intro h) | (refine And.elim ?_ h; clear h; intro _ h))
    all_goals refine ⟨_, H, h, ?_, rfl⟩
    all_goals (unfold jnV; simp [*] <;> omega)
  · skip
    have h := call_runP 3 vm_X4_join h
    have h := xw_top (hd := []) 11 xD4_ok xc_X4_join xa_X4_join (t := 0) rfl h
    simp (maxDischargeDepth := 12) -implicitDefEqProofs [vb_X4_join_0, vb_X4_join_52, vb_X4_join_56, vb_X4_join_60, vb_X4_join_64, vb_X4_join_72, vb_X4_join_75, vb_X4_join_76, vb_X4_join_82, xI_1, xI_7, xI_14, xI_15, xI_16, xI_17, xI_36, xI_38, xI_55, xI_56, xI_62, xI_102, xw_X4_join_0, xw_X4_join_52, xw_X4_join_56, xw_X4_join_60, xw_X4_join_64, xw_X4_join_72, xw_X4_join_75, xw_X4_join_76, xw_X4_join_82, zw_lit, xB_c, xB_s, xB_n, i1_c, j2_c, k1_c, jJ_e, xlg, xls, xla, xpd, ppush, zw_m1, zw_m2, zw_m3, xD1, xD2, xD3, xD4, ptl, Op.lookupswitch.offset] at h
    repeat' (first | (refine Or.elim h ?_ ?_ <;> clear h <;> intro h) | (refine And.elim ?_ h; clear h; intro _ h))
    all_goals refine ⟨_, H, h, ?_, rfl⟩
    all_goals (unfold jnV; simp [*] <;> omega)
  · skip
    have h := call_runP 3 vm_X4_join h
    have h := xw_top (hd := []) 11 xD4_ok xc_X4_join xa_X4_join (t := 0) rfl h
    simp (maxDischargeDepth := 12) -implicitDefEqProofs [vb_X4_join_0, vb_X4_join_52, vb_X4_join_56, vb_X4_join_60, vb_X4_join_64, vb_X4_join_72, vb_X4_join_75, vb_X4_join_76, vb_X4_join_82, xI_1, xI_7, xI_14, xI_15, xI_16, xI_17, xI_36, xI_38, xI_55, xI_56, xI_62, xI_102, xw_X4_join_0, xw_X4_join_52, xw_X4_join_56, xw_X4_join_60, xw_X4_join_64, xw_X4_join_72, xw_X4_join_75, xw_X4_join_76, xw_X4_join_82, zw_lit, xB_c, xB_s, xB_n, i1_c, j2_c, k1_c, jJ_e, xlg, xls, xla, xpd, ppush, zw_m1, zw_m2, zw_m3, xD1, xD2, xD3, xD4, ptl, Op.lookupswitch.offset] at h
    repeat' (first | (refine Or.elim h ?_ ?_ <;> clear h <;> intro h) | (refine And.elim ?_ h; clear h; intro _ h))
    all_goals refine ⟨_, H, h, ?_, rfl⟩
    all_goals (unfold jnV; simp [*] <;> omega)
  · skip
    have h := call_runP 3 vm_X4_join h
    have h := xw_top (hd := []) 11 xD4_ok xc_X4_join xa_X4_join (t := 0) rfl h
    simp (maxDischargeDepth := 12) -implicitDefEqProofs [vb_X4_join_0, vb_X4_join_52, vb_X4_join_56, vb_X4_join_60, vb_X4_join_64, vb_X4_join_72, vb_X4_join_75, vb_X4_join_76, vb_X4_join_82, xI_1, xI_7, xI_14, xI_15, xI_16, xI_17, xI_36, xI_38, xI_55, xI_56, xI_62, xI_102, xw_X4_join_0, xw_X4_join_52, xw_X4_join_56, xw_X4_join_60, xw_X4_join_64, xw_X4_join_72, xw_X4_join_75, xw_X4_join_76, xw_X4_join_82, zw_lit, xB_c, xB_s, xB_n, i1_c, j2_c, k1_c, jJ_e, xlg, xls, xla, xpd, ppush, zw_m1, zw_m2, zw_m3, xD1, xD2, xD3, xD4, ptl, Op.lookupswitch.offset] at h
    repeat' (first | (refine Or.elim h ?_ ?_ <;> clear h <;> intro h) | (refine And.elim ?_ h; clear h; intro _ h))
    all_goals refine ⟨_, H, h, ?_, rfl⟩
    all_goals (unfold jnV; simp [*] <;> omega)
  · skip
    have h := call_runP 3 vm_X4_join h
    have h := xw_top (hd := []) 11 xD4_ok xc_X4_join xa_X4_join (t := 0) rfl h
    simp (maxDischargeDepth := 12) -implicitDefEqProofs [vb_X4_join_0, vb_X4_join_52, vb_X4_join_56, vb_X4_join_60, vb_X4_join_64, vb_X4_join_72, vb_X4_join_75, vb_X4_join_76, vb_X4_join_82, xI_1, xI_7, xI_14, xI_15, xI_16, xI_17, xI_36, xI_38, xI_55, xI_56, xI_62, xI_102, xw_X4_join_0, xw_X4_join_52, xw_X4_join_56, xw_X4_join_60, xw_X4_join_64, xw_X4_join_72, xw_X4_join_75, xw_X4_join_76, xw_X4_join_82, zw_lit, xB_c, xB_s, xB_n, i1_c, j2_c, k1_c, jJ_e, xlg, xls, xla, xpd, ppush, zw_m1, zw_m2, zw_m3, xD1, xD2, xD3, xD4, ptl, Op.lookupswitch.offset] at h
    repeat' (first | (refine Or.elim h ?_ ?_ <;> clear h <;> intro h) | (refine And.elim ?_ h; clear h; intro _ h))
    all_goals refine ⟨_, H, h, ?_, rfl⟩
    all_goals (unfold jnV; simp [*] <;> omega)
  · skip
    have g1 : ¬ 42 = s := fun e => c1 e.symm
    have g2 : ¬ 43 = s := fun e => c2 e.symm
    have g3 : ¬ 45 = s := fun e => c3 e.symm
    have g4 : ¬ 47 = s := fun e => c4 e.symm
    have g5 : ¬ 60 = s := fun e => c5 e.symm
    have h := call_runP 3 vm_X4_join h
    have h := xw_top (hd := []) 11 xD4_ok xc_X4_join xa_X4_join (t := 0) rfl h
    simp (maxDischargeDepth := 12) -implicitDefEqProofs [vb_X4_join_0, vb_X4_join_52, vb_X4_join_56, vb_X4_join_60, vb_X4_join_64, vb_X4_join_72, vb_X4_join_75, vb_X4_join_76, vb_X4_join_82, xI_1, xI_7, xI_14, xI_15, xI_16, xI_17, xI_36, xI_38, xI_55, xI_56, xI_62, xI_102, xw_X4_join_0, xw_X4_join_52, xw_X4_join_56, xw_X4_join_60, xw_X4_join_64, xw_X4_join_72, xw_X4_join_75, xw_X4_join_76, xw_X4_join_82, zw_lit, xB_c, xB_s, xB_n, i1_c, j2_c, k1_c, jJ_e, xlg, xls, xla, xpd, ppush, zw_m1, zw_m2, zw_m3, xD1, xD2, xD3, xD4, ptl, Op.lookupswitch.offset, g1, g2, g3, g4, g5] at h
    repeat' (first | (refine Or.elim h ?_ ?_ <;> clear h <;> intro h) | (refine And.elim ?_ h; clear h; intro _ h))
    all_goals refine ⟨_, H, h, ?_, rfl⟩
    all_goals (unfold jnV; simp [*] <;> omega)
def vlV (c ship shore cnt : Int) : Int := if c = -115 then ship else if c = -111 then shore else if c = -99 then cnt else c
theorem ng_q1 {x : Int} (h0 : -2147483648 < x) (h1 : x ≤ 2147483647) : q1 (fun x => -x) x = -x := by
  unfold q1
  have e := zI_zu (x := x) ⟨by omega, by omega⟩
  have : (-(zI (zu x))).toInt = -x := by
    rw [Int32.toInt_neg, e, Int.bmod_def]
    omega
  exact this
theorem sp_X4_valueOf (c a b d : Int) (H : PH) (hc : -2147483648 < c ∧ c ≤ 2147483647) : SPEC 52 [(0, c), (0, a), (0, b), (0, d)] H (fun r H' => r = some (0, vlV c a b d) ∧ H' = H) := by
  intro E n res h
  have e := ng_q1 hc.1 hc.2
  have q : c = -115 ∨ c = -111 ∨ c = -99 ∨ (¬ c = -115 ∧ ¬ c = -111 ∧ ¬ c = -99) := by omega
  rcases q with rfl | rfl | rfl | ⟨c1, c2, c3⟩
  · skip
    have h := call_runP 4 vm_X4_valueOf h
    have h := xw_top (hd := []) 7 xD4_ok xc_X4_valueOf xa_X4_valueOf (t := 0) rfl h
    simp (maxDischargeDepth := 12) -implicitDefEqProofs [vb_X4_valueOf_0, vb_X4_valueOf_36, vb_X4_valueOf_38, vb_X4_valueOf_40, vb_X4_valueOf_42, xI_1, xI_25, xI_62, xI_101, xw_X4_valueOf_0, xw_X4_valueOf_36, xw_X4_valueOf_38, xw_X4_valueOf_40, xw_X4_valueOf_42, zw_lit, xB_c, xB_s, xB_n, i1_c, j2_c, k1_c, jJ_e, xlg, xls, xla, xpd, ppush, zw_m1, zw_m2, zw_m3, xD1, xD2, xD3, xD4, e, ptl, Op.lookupswitch.offset] at h
    repeat' (first | (refine Or.elim h ?_ ?_ <;> clear h <;> intro h) | (refine And.elim ?_ h; clear h; intro _ h))
    all_goals refine ⟨_, H, h, ?_, rfl⟩
    all_goals (unfold vlV; simp [*])
  · skip
    have h := call_runP 4 vm_X4_valueOf h
    have h := xw_top (hd := []) 7 xD4_ok xc_X4_valueOf xa_X4_valueOf (t := 0) rfl h
    simp (maxDischargeDepth := 12) -implicitDefEqProofs [vb_X4_valueOf_0, vb_X4_valueOf_36, vb_X4_valueOf_38, vb_X4_valueOf_40, vb_X4_valueOf_42, xI_1, xI_25, xI_62, xI_101, xw_X4_valueOf_0, xw_X4_valueOf_36, xw_X4_valueOf_38, xw_X4_valueOf_40, xw_X4_valueOf_42, zw_lit, xB_c, xB_s, xB_n, i1_c, j2_c, k1_c, jJ_e, xlg, xls, xla, xpd, ppush, zw_m1, zw_m2, zw_m3, xD1, xD2, xD3, xD4, e, ptl, Op.lookupswitch.offset] at h
    repeat' (first | (refine Or.elim h ?_ ?_ <;> clear h <;> intro h) | (refine And.elim ?_ h; clear h; intro _ h))
    all_goals refine ⟨_, H, h, ?_, rfl⟩
    all_goals (unfold vlV; simp [*])
  · skip
    have h := call_runP 4 vm_X4_valueOf h
    have h := xw_top (hd := []) 7 xD4_ok xc_X4_valueOf xa_X4_valueOf (t := 0) rfl h
    simp (maxDischargeDepth := 12) -implicitDefEqProofs [vb_X4_valueOf_0, vb_X4_valueOf_36, vb_X4_valueOf_38, vb_X4_valueOf_40, vb_X4_valueOf_42, xI_1, xI_25, xI_62, xI_101, xw_X4_valueOf_0, xw_X4_valueOf_36, xw_X4_valueOf_38, xw_X4_valueOf_40, xw_X4_valueOf_42, zw_lit, xB_c, xB_s, xB_n, i1_c, j2_c, k1_c, jJ_e, xlg, xls, xla, xpd, ppush, zw_m1, zw_m2, zw_m3, xD1, xD2, xD3, xD4, e, ptl, Op.lookupswitch.offset] at h
    repeat' (first | (refine Or.elim h ?_ ?_ <;> clear h <;> intro h) | (refine And.elim ?_ h; clear h; intro _ h))
    all_goals refine ⟨_, H, h, ?_, rfl⟩
    all_goals (unfold vlV; simp [*])
  · skip
    have d1 : ¬ 99 = -c := by omega
    have d2 : ¬ 111 = -c := by omega
    have d3 : ¬ 115 = -c := by omega
    have h := call_runP 4 vm_X4_valueOf h
    have h := xw_top (hd := []) 7 xD4_ok xc_X4_valueOf xa_X4_valueOf (t := 0) rfl h
    simp (maxDischargeDepth := 12) -implicitDefEqProofs [vb_X4_valueOf_0, vb_X4_valueOf_36, vb_X4_valueOf_38, vb_X4_valueOf_40, vb_X4_valueOf_42, xI_1, xI_25, xI_62, xI_101, xw_X4_valueOf_0, xw_X4_valueOf_36, xw_X4_valueOf_38, xw_X4_valueOf_40, xw_X4_valueOf_42, zw_lit, xB_c, xB_s, xB_n, i1_c, j2_c, k1_c, jJ_e, xlg, xls, xla, xpd, ppush, zw_m1, zw_m2, zw_m3, xD1, xD2, xD3, xD4, e, ptl, Op.lookupswitch.offset, d1, d2, d3] at h
    repeat' (first | (refine Or.elim h ?_ ?_ <;> clear h <;> intro h) | (refine And.elim ?_ h; clear h; intro _ h))
    all_goals refine ⟨_, H, h, ?_, rfl⟩
    all_goals (unfold vlV; simp [*])
