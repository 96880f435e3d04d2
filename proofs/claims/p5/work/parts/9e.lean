theorem pf_10_2 : pfOK 10 2 = true := by decide +kernel
theorem pf_10_3 : pfOK 10 3 = true := by decide +kernel
def xm_X10_fail : List xbT := [(0, vb_X10_fail_0, none)]
theorem xc_X10_fail : xOK kd_X10_fail xm_X10_fail := ⟨ve_X10_fail_0, trivial⟩
theorem xa_X10_fail : xm_X10_fail.all (fun q => aOKb q.2.1 && !q.2.1.isEmpty) = true := by decide +kernel
theorem xw_X10_fail_0 {E : xE} {res : xR} {N : Nat} {hd : List Nat} {C : xCT} {k : Nat} {L : List Int} {st : List pv} {H : PH} : xW E res N kd_X10_fail xm_X10_fail hd C (k + 1) 0 L st H = xB (fun t L st H => if t ∈ hd then xJ E res N kd_X10_fail t L st H else xW E res N kd_X10_fail xm_X10_fail hd C k t L st H) (REPR E res) C (none) vb_X10_fail_0 0 L st H := Eq.trans rfl rfl
def xm_X10_skip : List xbT := [(0, vb_X10_skip_0, some 17), (17, vb_X10_skip_17, none)]
theorem xc_X10_skip : xOK kd_X10_skip xm_X10_skip := ⟨ve_X10_skip_0, ve_X10_skip_17, trivial⟩
theorem xa_X10_skip : xm_X10_skip.all (fun q => aOKb q.2.1 && !q.2.1.isEmpty) = true := by decide +kernel
theorem xw_X10_skip_0 {E : xE} {res : xR} {N : Nat} {hd : List Nat} {C : xCT} {k : Nat} {L : List Int} {st : List pv} {H : PH} : xW E res N kd_X10_skip xm_X10_skip hd C (k + 1) 0 L st H = xB (fun t L st H => if t ∈ hd then xJ E res N kd_X10_skip t L st H else xW E res N kd_X10_skip xm_X10_skip hd C k t L st H) (REPR E res) C (some 17) vb_X10_skip_0 0 L st H := Eq.trans rfl rfl
theorem xw_X10_skip_17 {E : xE} {res : xR} {N : Nat} {hd : List Nat} {C : xCT} {k : Nat} {L : List Int} {st : List pv} {H : PH} : xW E res N kd_X10_skip xm_X10_skip hd C (k + 1) 17 L st H = xB (fun t L st H => if t ∈ hd then xJ E res N kd_X10_skip t L st H else xW E res N kd_X10_skip xm_X10_skip hd C k t L st H) (REPR E res) C (none) vb_X10_skip_17 17 L st H := Eq.trans rfl rfl
def xm_X10_digitUpTo : List xbT := [(0, vb_X10_digitUpTo_0, some 28), (28, vb_X10_digitUpTo_28, none)]
theorem xc_X10_digitUpTo : xOK kd_X10_digitUpTo xm_X10_digitUpTo := ⟨ve_X10_digitUpTo_0, ve_X10_digitUpTo_28, trivial⟩
theorem xa_X10_digitUpTo : xm_X10_digitUpTo.all (fun q => aOKb q.2.1 && !q.2.1.isEmpty) = true := by decide +kernel
theorem xw_X10_digitUpTo_0 {E : xE} {res : xR} {N : Nat} {hd : List Nat} {C : xCT} {k : Nat} {L : List Int} {st : List pv} {H : PH} : xW E res N kd_X10_digitUpTo xm_X10_digitUpTo hd C (k + 1) 0 L st H = xB (fun t L st H => if t ∈ hd then xJ E res N kd_X10_digitUpTo t L st H else xW E res N kd_X10_digitUpTo xm_X10_digitUpTo hd C k t L st H) (REPR E res) C (some 28) vb_X10_digitUpTo_0 0 L st H := Eq.trans rfl rfl
theorem xw_X10_digitUpTo_28 {E : xE} {res : xR} {N : Nat} {hd : List Nat} {C : xCT} {k : Nat} {L : List Int} {st : List pv} {H : PH} : xW E res N kd_X10_digitUpTo xm_X10_digitUpTo hd C (k + 1) 28 L st H = xB (fun t L st H => if t ∈ hd then xJ E res N kd_X10_digitUpTo t L st H else xW E res N kd_X10_digitUpTo xm_X10_digitUpTo hd C k t L st H) (REPR E res) C (none) vb_X10_digitUpTo_28 28 L st H := Eq.trans rfl rfl
def xm_X10_digits : List xbT := [(0, vb_X10_digits_0, some 16), (16, vb_X10_digits_16, some 70), (70, vb_X10_digits_70, none)]
theorem xc_X10_digits : xOK kd_X10_digits xm_X10_digits := ⟨ve_X10_digits_0, ve_X10_digits_16, ve_X10_digits_70, trivial⟩
theorem xa_X10_digits : xm_X10_digits.all (fun q => aOKb q.2.1 && !q.2.1.isEmpty) = true := by decide +kernel
theorem xw_X10_digits_0 {E : xE} {res : xR} {N : Nat} {hd : List Nat} {C : xCT} {k : Nat} {L : List Int} {st : List pv} {H : PH} : xW E res N kd_X10_digits xm_X10_digits hd C (k + 1) 0 L st H = xB (fun t L st H => if t ∈ hd then xJ E res N kd_X10_digits t L st H else xW E res N kd_X10_digits xm_X10_digits hd C k t L st H) (REPR E res) C (some 16) vb_X10_digits_0 0 L st H := Eq.trans rfl rfl
theorem xw_X10_digits_16 {E : xE} {res : xR} {N : Nat} {hd : List Nat} {C : xCT} {k : Nat} {L : List Int} {st : List pv} {H : PH} : xW E res N kd_X10_digits xm_X10_digits hd C (k + 1) 16 L st H = xB (fun t L st H => if t ∈ hd then xJ E res N kd_X10_digits t L st H else xW E res N kd_X10_digits xm_X10_digits hd C k t L st H) (REPR E res) C (some 70) vb_X10_digits_16 16 L st H := Eq.trans rfl rfl
theorem xw_X10_digits_70 {E : xE} {res : xR} {N : Nat} {hd : List Nat} {C : xCT} {k : Nat} {L : List Int} {st : List pv} {H : PH} : xW E res N kd_X10_digits xm_X10_digits hd C (k + 1) 70 L st H = xB (fun t L st H => if t ∈ hd then xJ E res N kd_X10_digits t L st H else xW E res N kd_X10_digits xm_X10_digits hd C k t L st H) (REPR E res) C (none) vb_X10_digits_70 70 L st H := Eq.trans rfl rfl
def xm_X10_amount : List xbT := [(0, vb_X10_amount_0, some 19), (19, vb_X10_amount_19, some 30), (30, vb_X10_amount_30, none)]
theorem xc_X10_amount : xOK kd_X10_amount xm_X10_amount := ⟨ve_X10_amount_0, ve_X10_amount_19, ve_X10_amount_30, trivial⟩
theorem xa_X10_amount : xm_X10_amount.all (fun q => aOKb q.2.1 && !q.2.1.isEmpty) = true := by decide +kernel
theorem xw_X10_amount_0 {E : xE} {res : xR} {N : Nat} {hd : List Nat} {C : xCT} {k : Nat} {L : List Int} {st : List pv} {H : PH} : xW E res N kd_X10_amount xm_X10_amount hd C (k + 1) 0 L st H = xB (fun t L st H => if t ∈ hd then xJ E res N kd_X10_amount t L st H else xW E res N kd_X10_amount xm_X10_amount hd C k t L st H) (REPR E res) C (some 19) vb_X10_amount_0 0 L st H := Eq.trans rfl rfl
theorem xw_X10_amount_19 {E : xE} {res : xR} {N : Nat} {hd : List Nat} {C : xCT} {k : Nat} {L : List Int} {st : List pv} {H : PH} : xW E res N kd_X10_amount xm_X10_amount hd C (k + 1) 19 L st H = xB (fun t L st H => if t ∈ hd then xJ E res N kd_X10_amount t L st H else xW E res N kd_X10_amount xm_X10_amount hd C k t L st H) (REPR E res) C (some 30) vb_X10_amount_19 19 L st H := Eq.trans rfl rfl
theorem xw_X10_amount_30 {E : xE} {res : xR} {N : Nat} {hd : List Nat} {C : xCT} {k : Nat} {L : List Int} {st : List pv} {H : PH} : xW E res N kd_X10_amount xm_X10_amount hd C (k + 1) 30 L st H = xB (fun t L st H => if t ∈ hd then xJ E res N kd_X10_amount t L st H else xW E res N kd_X10_amount xm_X10_amount hd C k t L st H) (REPR E res) C (none) vb_X10_amount_30 30 L st H := Eq.trans rfl rfl
def xm_X10_sign : List xbT := [(0, vb_X10_sign_0, some 23), (23, vb_X10_sign_23, none)]
theorem xc_X10_sign : xOK kd_X10_sign xm_X10_sign := ⟨ve_X10_sign_0, ve_X10_sign_23, trivial⟩
theorem xa_X10_sign : xm_X10_sign.all (fun q => aOKb q.2.1 && !q.2.1.isEmpty) = true := by decide +kernel
theorem xw_X10_sign_0 {E : xE} {res : xR} {N : Nat} {hd : List Nat} {C : xCT} {k : Nat} {L : List Int} {st : List pv} {H : PH} : xW E res N kd_X10_sign xm_X10_sign hd C (k + 1) 0 L st H = xB (fun t L st H => if t ∈ hd then xJ E res N kd_X10_sign t L st H else xW E res N kd_X10_sign xm_X10_sign hd C k t L st H) (REPR E res) C (some 23) vb_X10_sign_0 0 L st H := Eq.trans rfl rfl
theorem xw_X10_sign_23 {E : xE} {res : xR} {N : Nat} {hd : List Nat} {C : xCT} {k : Nat} {L : List Int} {st : List pv} {H : PH} : xW E res N kd_X10_sign xm_X10_sign hd C (k + 1) 23 L st H = xB (fun t L st H => if t ∈ hd then xJ E res N kd_X10_sign t L st H else xW E res N kd_X10_sign xm_X10_sign hd C k t L st H) (REPR E res) C (none) vb_X10_sign_23 23 L st H := Eq.trans rfl rfl
def xm_X10_rewind : List xbT := [(0, vb_X10_rewind_0, none)]
theorem xc_X10_rewind : xOK kd_X10_rewind xm_X10_rewind := ⟨ve_X10_rewind_0, trivial⟩
theorem xa_X10_rewind : xm_X10_rewind.all (fun q => aOKb q.2.1 && !q.2.1.isEmpty) = true := by decide +kernel
theorem xw_X10_rewind_0 {E : xE} {res : xR} {N : Nat} {hd : List Nat} {C : xCT} {k : Nat} {L : List Int} {st : List pv} {H : PH} : xW E res N kd_X10_rewind xm_X10_rewind hd C (k + 1) 0 L st H = xB (fun t L st H => if t ∈ hd then xJ E res N kd_X10_rewind t L st H else xW E res N kd_X10_rewind xm_X10_rewind hd C k t L st H) (REPR E res) C (none) vb_X10_rewind_0 0 L st H := Eq.trans rfl rfl
def xm_X10_signs : List xbT := [(0, vb_X10_signs_0, some 5), (5, vb_X10_signs_5, some 30), (30, vb_X10_signs_30, some 37), (37, vb_X10_signs_37, some 47), (47, vb_X10_signs_47, some 70), (70, vb_X10_signs_70, some 85), (85, vb_X10_signs_85, none)]
theorem xc_X10_signs : xOK kd_X10_signs xm_X10_signs := ⟨ve_X10_signs_0, ve_X10_signs_5, ve_X10_signs_30, ve_X10_signs_37, ve_X10_signs_47, ve_X10_signs_70, ve_X10_signs_85, trivial⟩
theorem xa_X10_signs : xm_X10_signs.all (fun q => aOKb q.2.1 && !q.2.1.isEmpty) = true := by decide +kernel
theorem xw_X10_signs_0 {E : xE} {res : xR} {N : Nat} {hd : List Nat} {C : xCT} {k : Nat} {L : List Int} {st : List pv} {H : PH} : xW E res N kd_X10_signs xm_X10_signs hd C (k + 1) 0 L st H = xB (fun t L st H => if t ∈ hd then xJ E res N kd_X10_signs t L st H else xW E res N kd_X10_signs xm_X10_signs hd C k t L st H) (REPR E res) C (some 5) vb_X10_signs_0 0 L st H := Eq.trans rfl rfl
theorem xw_X10_signs_5 {E : xE} {res : xR} {N : Nat} {hd : List Nat} {C : xCT} {k : Nat} {L : List Int} {st : List pv} {H : PH} : xW E res N kd_X10_signs xm_X10_signs hd C (k + 1) 5 L st H = xB (fun t L st H => if t ∈ hd then xJ E res N kd_X10_signs t L st H else xW E res N kd_X10_signs xm_X10_signs hd C k t L st H) (REPR E res) C (some 30) vb_X10_signs_5 5 L st H := Eq.trans rfl rfl
theorem xw_X10_signs_30 {E : xE} {res : xR} {N : Nat} {hd : List Nat} {C : xCT} {k : Nat} {L : List Int} {st : List pv} {H : PH} : xW E res N kd_X10_signs xm_X10_signs hd C (k + 1) 30 L st H = xB (fun t L st H => if t ∈ hd then xJ E res N kd_X10_signs t L st H else xW E res N kd_X10_signs xm_X10_signs hd C k t L st H) (REPR E res) C (some 37) vb_X10_signs_30 30 L st H := Eq.trans rfl rfl
theorem xw_X10_signs_37 {E : xE} {res : xR} {N : Nat} {hd : List Nat} {C : xCT} {k : Nat} {L : List Int} {st : List pv} {H : PH} : xW E res N kd_X10_signs xm_X10_signs hd C (k + 1) 37 L st H = xB (fun t L st H => if t ∈ hd then xJ E res N kd_X10_signs t L st H else xW E res N kd_X10_signs xm_X10_signs hd C k t L st H) (REPR E res) C (some 47) vb_X10_signs_37 37 L st H := Eq.trans rfl rfl
theorem xw_X10_signs_47 {E : xE} {res : xR} {N : Nat} {hd : List Nat} {C : xCT} {k : Nat} {L : List Int} {st : List pv} {H : PH} : xW E res N kd_X10_signs xm_X10_signs hd C (k + 1) 47 L st H = xB (fun t L st H => if t ∈ hd then xJ E res N kd_X10_signs t L st H else xW E res N kd_X10_signs xm_X10_signs hd C k t L st H) (REPR E res) C (some 70) vb_X10_signs_47 47 L st H := Eq.trans rfl rfl
theorem xw_X10_signs_70 {E : xE} {res : xR} {N : Nat} {hd : List Nat} {C : xCT} {k : Nat} {L : List Int} {st : List pv} {H : PH} : xW E res N kd_X10_signs xm_X10_signs hd C (k + 1) 70 L st H = xB (fun t L st H => if t ∈ hd then xJ E res N kd_X10_signs t L st H else xW E res N kd_X10_signs xm_X10_signs hd C k t L st H) (REPR E res) C (some 85) vb_X10_signs_70 70 L st H := Eq.trans rfl rfl
theorem xw_X10_signs_85 {E : xE} {res : xR} {N : Nat} {hd : List Nat} {C : xCT} {k : Nat} {L : List Int} {st : List pv} {H : PH} : xW E res N kd_X10_signs xm_X10_signs hd C (k + 1) 85 L st H = xB (fun t L st H => if t ∈ hd then xJ E res N kd_X10_signs t L st H else xW E res N kd_X10_signs xm_X10_signs hd C k t L st H) (REPR E res) C (none) vb_X10_signs_85 85 L st H := Eq.trans rfl rfl
def xm_X8_append : List xbT := [(0, vb_X8_append_0, none)]
theorem xc_X8_append : xOK kd_X8_append xm_X8_append := ⟨ve_X8_append_0, trivial⟩
theorem xa_X8_append : xm_X8_append.all (fun q => aOKb q.2.1 && !q.2.1.isEmpty) = true := by decide +kernel
theorem xw_X8_append_0 {E : xE} {res : xR} {N : Nat} {hd : List Nat} {C : xCT} {k : Nat} {L : List Int} {st : List pv} {H : PH} : xW E res N kd_X8_append xm_X8_append hd C (k + 1) 0 L st H = xB (fun t L st H => if t ∈ hd then xJ E res N kd_X8_append t L st H else xW E res N kd_X8_append xm_X8_append hd C k t L st H) (REPR E res) C (none) vb_X8_append_0 0 L st H := Eq.trans rfl rfl
/-! the tape, read -/
def nxF (sz : Int) (w : Int → Int) (a : Int) : Int := if a < sz then w a else -1
def isF (c : Int) : Prop := 48 ≤ c ∧ c ≤ 57
def dgF (sz : Int) (w : Int → Int) : Nat → Int → Int → Int × Int
  | 0, a, v => (v, a)
  | n + 1, a, v => if 48 ≤ nxF sz w a ∧ nxF sz w a ≤ 57 then dgF sz w n (a + 1) (10 * v + nxF sz w a - 48) else (v, a)
/-- the class's tape -/
def TP (sz : Int) (w : Int → Int) (a : Int) (H : PH) : Prop := H 213 1 = sz ∧ H 214 = w ∧ H 213 2 = a ∧ 0 ≤ a ∧ a ≤ sz ∧ sz ≤ 600
/-- what reading leaves as it is -/
def PF (H H' : PH) : Prop := (∀ c, ¬ c = 213 → H' c = H c) ∧ ∀ i, ¬ i = 2 → ¬ i = 3 → H' 213 i = H 213 i
theorem PF_refl {H : PH} : PF H H := ⟨fun _ _ => rfl, fun _ _ _ => rfl⟩
theorem PF_trans {H H1 H2 : PH} (a : PF H H1) (b : PF H1 H2) : PF H H2 := ⟨fun c h => (b.1 c h).trans (a.1 c h), fun i h1 h2 => (b.2 i h1 h2).trans (a.2 i h1 h2)⟩
theorem PF_up {H : PH} {i v : Int} (h : i = 2 ∨ i = 3) : PF H (pup H 213 i v) := ⟨fun c hc => xp_ne hc, fun j h1 h2 => by rw [xp_at, if_neg (by omega)]⟩
theorem TP_nx {sz a : Int} {w : Int → Int} {H : PH} (h : TP sz w a H) : nxV H = nxF sz w a := by
  unfold nxV nxF
  rw [h.1, h.2.1, h.2.2.1]
theorem TP_up {sz a : Int} {w : Int → Int} {H : PH} (h : TP sz w a H) (ha : a < sz) : TP sz w (a + 1) (pup H 213 2 (a + 1)) := ⟨by rw [xp_at, if_neg (by decide)]; exact h.1, by rw [xp_ne (by decide)]; exact h.2.1, by rw [xp_at, if_pos rfl], by have := h.2.2.2.1; omega, by omega, h.2.2.2.2.2⟩
theorem nxF_lt {sz a c : Int} {w : Int → Int} (h : nxF sz w a = c) (hc : 0 ≤ c) : a < sz := by
  unfold nxF at h
  split at h
  · assumption
  · omega
theorem sp_X10_fail (p : Int) (H : PH) : SPEC 96 [(2, 213), (0, p)] H (fun r H' => r = some (0, 0) ∧ H' = (pup H 213 3 p)) := by
  intro E n res h
  have h := call_runP 2 vm_X10_fail h
  have h := xw_top (hd := []) 3 xD6_ok xc_X10_fail xa_X10_fail (t := 0) rfl h
  simp (maxDischargeDepth := 12) -implicitDefEqProofs [vb_X10_fail_0, xI_0, xI_1, xI_7, xI_50, xI_62, xw_X10_fail_0, zw_lit, xB_c, xB_s, xB_n, i1_c, j2_c, k1_c, jJ_e, xlg, xls, xla, xpd, ppush, zw_m1, zw_m2, zw_m3, pf_10_3, tg_10_3, xD1, xD2, xD3, xD4, xD5, xD6, xb1_0] at h
  repeat' (first | (refine Or.elim h ?_ ?_ <;> clear h <;> intro h) | (refine And.elim ?_ h; clear h; intro _ h))
  all_goals refine ⟨_, _, h, ?_, rfl⟩
  all_goals (first | rfl | (congr 2; (repeat' split) <;> first | rfl | omega))
theorem sp_X10_skip (c : Int) (sz a : Int) (w : Int → Int) (H : PH) (hT : TP sz w a H) (hc : 0 ≤ c) : SPEC 97 [(2, 213), (0, c)] H (fun r H' => PF H H' ∧ ((nxF sz w a = c ∧ r = some (0, 1) ∧ TP sz w (a + 1) H') ∨ (¬ nxF sz w a = c ∧ r = some (0, 0)))) := by
  intro E n res h
  have en := TP_nx hT
  have e2 := hT.2.2.1
  by_cases q : nxF sz w a = c
  · have hl := nxF_lt q hc
    have z1 : zw (a + 1) = a + 1 := zw_lit (by have := hT.2.2; omega) (by have := hT.2.2; omega)
    have h := call_runP 2 vm_X10_skip h
    have h := xw_top (hd := []) 4 xD6_ok xc_X10_skip xa_X10_skip (t := 0) rfl h
    simp (maxDischargeDepth := 12) -implicitDefEqProofs [vb_X10_skip_0, vb_X10_skip_17, xI_0, xI_1, xI_7, xI_14, xI_33, xI_43, xI_49, xI_50, xI_61, xI_62, xw_X10_skip_0, xw_X10_skip_17, zw_lit, xB_c, xB_s, xB_n, i1_c, j2_c, k1_c, jJ_e, xlg, xls, xla, xpd, ppush, zw_m1, zw_m2, zw_m3, gf_10_2, pf_10_2, tg_10_2, gv_213_2, xD1, xD2, xD3, xD4, xD5, xD6, xb1_0, en, e2, q, z1] at h
    exact ⟨_, _, h, PF_up (Or.inl rfl), Or.inl ⟨q, rfl, TP_up hT hl⟩⟩
  · have h := call_runP 2 vm_X10_skip h
    have h := xw_top (hd := []) 4 xD6_ok xc_X10_skip xa_X10_skip (t := 0) rfl h
    simp (maxDischargeDepth := 12) -implicitDefEqProofs [vb_X10_skip_0, vb_X10_skip_17, xI_0, xI_1, xI_7, xI_14, xI_33, xI_43, xI_49, xI_50, xI_61, xI_62, xw_X10_skip_0, xw_X10_skip_17, zw_lit, xB_c, xB_s, xB_n, i1_c, j2_c, k1_c, jJ_e, xlg, xls, xla, xpd, ppush, zw_m1, zw_m2, zw_m3, gf_10_2, pf_10_2, tg_10_2, gv_213_2, xD1, xD2, xD3, xD4, xD5, xD6, xb1_0, en, e2, q] at h
    obtain ⟨r, H2, ⟨rfl, rfl⟩, h⟩ := xc_use h (sp_X10_fail a H)
    simp (maxDischargeDepth := 12) -implicitDefEqProofs [vb_X10_skip_0, vb_X10_skip_17, xI_0, xI_1, xI_7, xI_14, xI_33, xI_43, xI_49, xI_50, xI_61, xI_62, xw_X10_skip_0, xw_X10_skip_17, zw_lit, xB_c, xB_s, xB_n, i1_c, j2_c, k1_c, jJ_e, xlg, xls, xla, xpd, ppush, zw_m1, zw_m2, zw_m3, gf_10_2, pf_10_2, tg_10_2, gv_213_2, xD1, xD2, xD3, xD4, xD5, xD6, xb1_0] at h
    exact ⟨_, _, h, PF_up (Or.inr rfl), Or.inr ⟨q, rfl⟩⟩
theorem sp_X10_digitUpTo (m : Int) (sz a : Int) (w : Int → Int) (H : PH) (hT : TP sz w a H) (hm : 0 ≤ m ∧ m ≤ 9) (hw : ∀ i, 0 ≤ i → i < sz → 0 ≤ w i ∧ w i ≤ 255) : SPEC 99 [(2, 213), (0, m)] H (fun r H' => PF H H' ∧ (((48 ≤ nxF sz w a ∧ nxF sz w a ≤ 48 + m) ∧ r = some (0, nxF sz w a - 48) ∧ TP sz w (a + 1) H') ∨ (¬ (48 ≤ nxF sz w a ∧ nxF sz w a ≤ 48 + m) ∧ r = some (0, -1)))) := by
  intro E n res h
  have en := TP_nx hT
  have e2 := hT.2.2.1
  have hr : -1 ≤ nxF sz w a ∧ nxF sz w a ≤ 255 := by
    unfold nxF
    split
    · have := hw a hT.2.2.2.1 (by assumption)
      omega
    · omega
  have z0 : zw (nxF sz w a - 48) = nxF sz w a - 48 := zw_lit (by omega) (by omega)
  by_cases q : 48 ≤ nxF sz w a ∧ nxF sz w a ≤ 48 + m
  · have hl : a < sz := by
      by_cases e : a < sz
      · exact e
      · unfold nxF at q
        rw [if_neg e] at q
        omega
    have z1 : zw (a + 1) = a + 1 := zw_lit (by have := hT.2.2; omega) (by have := hT.2.2; omega)
    have h := call_runP 3 vm_X10_digitUpTo h
    have h := xw_top (hd := []) 4 xD6_ok xc_X10_digitUpTo xa_X10_digitUpTo (t := 0) rfl h
    simp (maxDischargeDepth := 12) -implicitDefEqProofs [vb_X10_digitUpTo_0, vb_X10_digitUpTo_28, xI_0, xI_1, xI_3, xI_7, xI_8, xI_14, xI_15, xI_33, xI_35, xI_38, xI_49, xI_50, xI_60, xI_61, xI_62, xw_X10_digitUpTo_0, xw_X10_digitUpTo_28, zw_lit, xB_c, xB_s, xB_n, i1_c, j2_c, k1_c, jJ_e, xlg, xls, xla, xpd, ppush, zw_m1, zw_m2, zw_m3, gf_10_2, pf_10_2, tg_10_2, gv_213_2, xD1, xD2, xD3, xD4, xD5, xD6, xb1_0, en, e2, z0, z1] at h
    have h := (h.resolve_right (by omega)).2
    exact ⟨_, _, h, PF_up (Or.inl rfl), Or.inl ⟨q, rfl, TP_up hT hl⟩⟩
  · have h := call_runP 3 vm_X10_digitUpTo h
    have h := xw_top (hd := []) 4 xD6_ok xc_X10_digitUpTo xa_X10_digitUpTo (t := 0) rfl h
    simp (maxDischargeDepth := 12) -implicitDefEqProofs [vb_X10_digitUpTo_0, vb_X10_digitUpTo_28, xI_0, xI_1, xI_3, xI_7, xI_8, xI_14, xI_15, xI_33, xI_35, xI_38, xI_49, xI_50, xI_60, xI_61, xI_62, xw_X10_digitUpTo_0, xw_X10_digitUpTo_28, zw_lit, xB_c, xB_s, xB_n, i1_c, j2_c, k1_c, jJ_e, xlg, xls, xla, xpd, ppush, zw_m1, zw_m2, zw_m3, gf_10_2, pf_10_2, tg_10_2, gv_213_2, xD1, xD2, xD3, xD4, xD5, xD6, xb1_0, en, e2, z0] at h
    have h := (h.resolve_left (by omega)).2
    obtain ⟨r, H2, ⟨rfl, rfl⟩, h⟩ := xc_use h (sp_X10_fail a H)
    simp (maxDischargeDepth := 12) -implicitDefEqProofs [vb_X10_digitUpTo_0, vb_X10_digitUpTo_28, xI_0, xI_1, xI_3, xI_7, xI_8, xI_14, xI_15, xI_33, xI_35, xI_38, xI_49, xI_50, xI_60, xI_61, xI_62, xw_X10_digitUpTo_0, xw_X10_digitUpTo_28, zw_lit, xB_c, xB_s, xB_n, i1_c, j2_c, k1_c, jJ_e, xlg, xls, xla, xpd, ppush, zw_m1, zw_m2, zw_m3, gf_10_2, pf_10_2, tg_10_2, gv_213_2, xD1, xD2, xD3, xD4, xD5, xD6, xb1_0] at h
    exact ⟨_, _, h, PF_up (Or.inr rfl), Or.inr ⟨q, rfl⟩⟩
/-- how large what was read can be -/
def dB (n : Nat) (v : Int) : Prop := n ≤ 4 ∧ 0 ≤ v ∧ v ≤ 9999 ∧ (n = 1 → v ≤ 999) ∧ (n = 2 → v ≤ 99) ∧ (n = 3 → v ≤ 9) ∧ (n = 4 → v = 0)
theorem lp_digits (m l : Int) (sz : Int) (w : Int → Int) (hw : ∀ i, 0 ≤ i → i < sz → 0 ≤ w i ∧ w i ≤ 255) {E : xE} {res : xR} : ∀ (n : Nat) (k : Nat) (a v : Int) (H : PH), TP sz w a H → l = min sz (a + k) → dB k v → RUN E res n kd_X10_digits (zget kd_X10_digits 16) 16 [213, m, v, l] [] H → ∃ H' : PH, PF H H' ∧ TP sz w (dgF sz w k a v).2 H' ∧ REPR E res (some (0, (dgF sz w k a v).1)) H' := by
  intro n
  induction n using Nat.strongRecOn with
  | _ n ih =>
    intro k a v H hT hl hB h
    obtain ⟨t1, t2, t3, t4, t5, t6⟩ := id hT
    unfold dB at hB
    by_cases q : a < l
    · have hk : 1 ≤ k := by omega
      obtain ⟨j, rfl⟩ : ∃ j, k = j + 1 := ⟨k - 1, by omega⟩
      have en : nxF sz w a = w a := if_pos (by omega)
      have hr := hw a t4 (by omega)
      unfold dgF
      rw [en]
      by_cases c : 48 ≤ w a ∧ w a ≤ 57
      · rw [if_pos c]
        have z1 : zw (a + 1) = a + 1 := zw_lit (by omega) (by omega)
        have z2 : zw (v * 10) = v * 10 := zw_lit (by omega) (by omega)
        have z3 : zw (v * 10 + w a) = v * 10 + w a := zw_lit (by omega) (by omega)
        have z4 : zw (v * 10 + w a - 48) = 10 * v + w a - 48 := by
          rw [zw_lit (by omega) (by omega)]
          omega
        have c3 : ¬ 57 < w a := by omega
        have h := xw_top (hd := [16]) 5 xD6_ok xc_X10_digits xa_X10_digits (t := 16) rfl h
        simp (maxDischargeDepth := 12) -implicitDefEqProofs [vb_X10_digits_0, vb_X10_digits_16, vb_X10_digits_70, xI_0, xI_1, xI_3, xI_7, xI_8, xI_14, xI_15, xI_16, xI_33, xI_36, xI_37, xI_46, xI_49, xI_50, xI_51, xI_56, xI_60, xI_62, xw_X10_digits_0, xw_X10_digits_16, xw_X10_digits_70, zw_lit, xB_c, xB_s, xB_n, i1_c, j2_c, k1_c, jJ_e, xlg, xls, xla, xpd, ppush, zw_m1, zw_m2, zw_m3, gf_10_0, gf_10_1, gf_10_2, pf_10_2, tg_10_0, tg_10_1, tg_10_2, gv_213_0, gv_213_1, gv_213_2, xD1, xD2, xD3, xD4, xD5, xD6, xb1_0, t2, t3, z1, z2, z3, z4, c, c3] at h
        have h := (h.resolve_left (by omega)).2
        obtain ⟨i, hi, h⟩ := h
        obtain ⟨H', g1, g2, g3⟩ := ih i hi j (a + 1) _ _ (TP_up hT (by omega)) (by omega) (by unfold dB; omega) h
        exact ⟨H', PF_trans (PF_up (Or.inl rfl)) g1, g2, g3⟩
      · rw [if_neg c]
        have h := xw_top (hd := [16]) 5 xD6_ok xc_X10_digits xa_X10_digits (t := 16) rfl h
        simp (maxDischargeDepth := 12) -implicitDefEqProofs [vb_X10_digits_0, vb_X10_digits_16, vb_X10_digits_70, xI_0, xI_1, xI_3, xI_7, xI_8, xI_14, xI_15, xI_16, xI_33, xI_36, xI_37, xI_46, xI_49, xI_50, xI_51, xI_56, xI_60, xI_62, xw_X10_digits_0, xw_X10_digits_16, xw_X10_digits_70, zw_lit, xB_c, xB_s, xB_n, i1_c, j2_c, k1_c, jJ_e, xlg, xls, xla, xpd, ppush, zw_m1, zw_m2, zw_m3, gf_10_0, gf_10_1, gf_10_2, pf_10_2, tg_10_0, tg_10_1, tg_10_2, gv_213_0, gv_213_1, gv_213_2, xD1, xD2, xD3, xD4, xD5, xD6, xb1_0, t2, t3, c] at h
        have h := (h.resolve_left (by omega)).2.2
        exact ⟨H, PF_refl, hT, h⟩
    · have h := xw_top (hd := [16]) 5 xD6_ok xc_X10_digits xa_X10_digits (t := 16) rfl h
      simp (maxDischargeDepth := 12) -implicitDefEqProofs [vb_X10_digits_0, vb_X10_digits_16, vb_X10_digits_70, xI_0, xI_1, xI_3, xI_7, xI_8, xI_14, xI_15, xI_16, xI_33, xI_36, xI_37, xI_46, xI_49, xI_50, xI_51, xI_56, xI_60, xI_62, xw_X10_digits_0, xw_X10_digits_16, xw_X10_digits_70, zw_lit, xB_c, xB_s, xB_n, i1_c, j2_c, k1_c, jJ_e, xlg, xls, xla, xpd, ppush, zw_m1, zw_m2, zw_m3, gf_10_0, gf_10_1, gf_10_2, pf_10_2, tg_10_0, tg_10_1, tg_10_2, gv_213_0, gv_213_1, gv_213_2, xD1, xD2, xD3, xD4, xD5, xD6, xb1_0, t3] at h
      have h := (h.resolve_right (by omega)).2
      have e : dgF sz w k a v = (v, a) := by
        cases k with
        | zero => rfl
        | succ j =>
          unfold dgF
          rw [if_neg]
          unfold nxF
          rw [if_neg (by omega)]
          omega
      rw [e]
      exact ⟨H, PF_refl, hT, h⟩
theorem sp_X10_digits (k : Nat) (m : Int) (sz a : Int) (w : Int → Int) (H : PH) (hm : m = k) (hk : k ≤ 4) (hT : TP sz w a H) (hw : ∀ i, 0 ≤ i → i < sz → 0 ≤ w i ∧ w i ≤ 255) : SPEC 100 [(2, 213), (0, m)] H (fun r H' => r = some (0, (dgF sz w k a 0).1) ∧ PF H H' ∧ TP sz w (dgF sz w k a 0).2 H') := by
  intro E n res h
  obtain ⟨t1, t2, t3, t4, t5, t6⟩ := id hT
  have z1 : zw (a + m) = a + m := zw_lit (by omega) (by omega)
  have h := call_runP 4 vm_X10_digits h
  have h := xw_top (hd := [16]) 5 xD6_ok xc_X10_digits xa_X10_digits (t := 0) rfl h
  simp (maxDischargeDepth := 12) -implicitDefEqProofs [vb_X10_digits_0, vb_X10_digits_16, vb_X10_digits_70, xI_0, xI_1, xI_3, xI_7, xI_8, xI_14, xI_15, xI_16, xI_33, xI_36, xI_37, xI_46, xI_49, xI_50, xI_51, xI_56, xI_60, xI_62, xw_X10_digits_0, xw_X10_digits_16, xw_X10_digits_70, zw_lit, xB_c, xB_s, xB_n, i1_c, j2_c, k1_c, jJ_e, xlg, xls, xla, xpd, ppush, zw_m1, zw_m2, zw_m3, gf_10_0, gf_10_1, gf_10_2, pf_10_2, tg_10_0, tg_10_1, tg_10_2, gv_213_0, gv_213_1, gv_213_2, xD1, xD2, xD3, xD4, xD5, xD6, xb1_0, t1, t3, z1, mn_a] at h
  obtain ⟨i, hi, h⟩ := h
  obtain ⟨H', g1, g2, g3⟩ := lp_digits m _ sz w hw i k a 0 H hT (by omega) (by unfold dB; omega) h
  exact ⟨_, H', g3, rfl, g1, g2⟩
theorem sp_X10_amount (k : Nat) (m : Int) (sz a : Int) (w : Int → Int) (H : PH) (hm : m = k) (hk : k ≤ 4) (hT : TP sz w a H) (hw : ∀ i, 0 ≤ i → i < sz → 0 ≤ w i ∧ w i ≤ 255) : SPEC 101 [(2, 213), (0, m)] H (fun r H' => PF H H' ∧ (((49 ≤ nxF sz w a ∧ nxF sz w a ≤ 57) ∧ r = some (0, (dgF sz w k a 0).1) ∧ TP sz w (dgF sz w k a 0).2 H') ∨ (¬ (49 ≤ nxF sz w a ∧ nxF sz w a ≤ 57) ∧ r = some (0, 0)))) := by
  intro E n res h
  have en := TP_nx hT
  have e2 := hT.2.2.1
  by_cases q : 49 ≤ nxF sz w a ∧ nxF sz w a ≤ 57
  · have q1 : 48 ≤ nxF sz w a ∧ nxF sz w a ≤ 57 := by omega
    have q2 : ¬ nxF sz w a = 48 := by omega
    have q3 : ¬ 57 < nxF sz w a := by omega
    have h := call_runP 2 vm_X10_amount h
    have h := xw_top (hd := []) 5 xD6_ok xc_X10_amount xa_X10_amount (t := 0) rfl h
    simp (maxDischargeDepth := 12) -implicitDefEqProofs [vb_X10_amount_0, vb_X10_amount_19, vb_X10_amount_30, xI_0, xI_1, xI_7, xI_8, xI_35, xI_37, xI_44, xI_49, xI_60, xI_61, xI_62, xw_X10_amount_0, xw_X10_amount_19, xw_X10_amount_30, zw_lit, xB_c, xB_s, xB_n, i1_c, j2_c, k1_c, jJ_e, xlg, xls, xla, xpd, ppush, zw_m1, zw_m2, zw_m3, gf_10_2, tg_10_2, gv_213_2, xD1, xD2, xD3, xD4, xD5, xD6, xb1_0, en, e2, q1, q2, q3] at h
    obtain ⟨r, H2, ⟨rfl, g1, g2⟩, h⟩ := xc_use h (sp_X10_digits k m sz a w H hm hk hT hw)
    simp (maxDischargeDepth := 12) -implicitDefEqProofs [vb_X10_amount_0, vb_X10_amount_19, vb_X10_amount_30, xI_0, xI_1, xI_7, xI_8, xI_35, xI_37, xI_44, xI_49, xI_60, xI_61, xI_62, xw_X10_amount_0, xw_X10_amount_19, xw_X10_amount_30, zw_lit, xB_c, xB_s, xB_n, i1_c, j2_c, k1_c, jJ_e, xlg, xls, xla, xpd, ppush, zw_m1, zw_m2, zw_m3, gf_10_2, tg_10_2, gv_213_2, xD1, xD2, xD3, xD4, xD5, xD6, xb1_0] at h
    exact ⟨_, _, h, g1, Or.inl ⟨q, rfl, g2⟩⟩
  · have fin : ∀ {r0 : Option pv} {H2 : PH}, r0 = some (0, 0) ∧ H2 = pup H 213 3 a → REPR E res (some (0, 0)) H2 → ∃ r H', REPR E res r H' ∧ PF H H' ∧ (((49 ≤ nxF sz w a ∧ nxF sz w a ≤ 57) ∧ r = some (0, (dgF sz w k a 0).1) ∧ TP sz w (dgF sz w k a 0).2 H') ∨ (¬ (49 ≤ nxF sz w a ∧ nxF sz w a ≤ 57) ∧ r = some (0, 0))) := by
      rintro r0 H2 ⟨rfl, rfl⟩ h
      exact ⟨_, _, h, PF_up (Or.inr rfl), Or.inr ⟨q, rfl⟩⟩
    by_cases q1 : 48 ≤ nxF sz w a ∧ nxF sz w a ≤ 57
    · have q2 : nxF sz w a = 48 := by omega
      have h := call_runP 2 vm_X10_amount h
      have h := xw_top (hd := []) 5 xD6_ok xc_X10_amount xa_X10_amount (t := 0) rfl h
      simp (maxDischargeDepth := 12) -implicitDefEqProofs [vb_X10_amount_0, vb_X10_amount_19, vb_X10_amount_30, xI_0, xI_1, xI_7, xI_8, xI_35, xI_37, xI_44, xI_49, xI_60, xI_61, xI_62, xw_X10_amount_0, xw_X10_amount_19, xw_X10_amount_30, zw_lit, xB_c, xB_s, xB_n, i1_c, j2_c, k1_c, jJ_e, xlg, xls, xla, xpd, ppush, zw_m1, zw_m2, zw_m3, gf_10_2, tg_10_2, gv_213_2, xD1, xD2, xD3, xD4, xD5, xD6, xb1_0, en, e2, q2] at h
      obtain ⟨r, H2, p, h⟩ := xc_use h (sp_X10_fail a H)
      obtain ⟨rfl, rfl⟩ := p
      simp (maxDischargeDepth := 12) -implicitDefEqProofs [vb_X10_amount_0, vb_X10_amount_19, vb_X10_amount_30, xI_0, xI_1, xI_7, xI_8, xI_35, xI_37, xI_44, xI_49, xI_60, xI_61, xI_62, xw_X10_amount_0, xw_X10_amount_19, xw_X10_amount_30, zw_lit, xB_c, xB_s, xB_n, i1_c, j2_c, k1_c, jJ_e, xlg, xls, xla, xpd, ppush, zw_m1, zw_m2, zw_m3, gf_10_2, tg_10_2, gv_213_2, xD1, xD2, xD3, xD4, xD5, xD6, xb1_0] at h
      exact fin ⟨rfl, rfl⟩ h
    · have h := call_runP 2 vm_X10_amount h
      have h := xw_top (hd := []) 5 xD6_ok xc_X10_amount xa_X10_amount (t := 0) rfl h
      simp (maxDischargeDepth := 12) -implicitDefEqProofs [vb_X10_amount_0, vb_X10_amount_19, vb_X10_amount_30, xI_0, xI_1, xI_7, xI_8, xI_35, xI_37, xI_44, xI_49, xI_60, xI_61, xI_62, xw_X10_amount_0, xw_X10_amount_19, xw_X10_amount_30, zw_lit, xB_c, xB_s, xB_n, i1_c, j2_c, k1_c, jJ_e, xlg, xls, xla, xpd, ppush, zw_m1, zw_m2, zw_m3, gf_10_2, tg_10_2, gv_213_2, xD1, xD2, xD3, xD4, xD5, xD6, xb1_0, en, e2, q1] at h
      obtain ⟨r, H2, p, h⟩ := xc_use h.2 (sp_X10_fail a H)
      obtain ⟨rfl, rfl⟩ := p
      simp (maxDischargeDepth := 12) -implicitDefEqProofs [vb_X10_amount_0, vb_X10_amount_19, vb_X10_amount_30, xI_0, xI_1, xI_7, xI_8, xI_35, xI_37, xI_44, xI_49, xI_60, xI_61, xI_62, xw_X10_amount_0, xw_X10_amount_19, xw_X10_amount_30, zw_lit, xB_c, xB_s, xB_n, i1_c, j2_c, k1_c, jJ_e, xlg, xls, xla, xpd, ppush, zw_m1, zw_m2, zw_m3, gf_10_2, tg_10_2, gv_213_2, xD1, xD2, xD3, xD4, xD5, xD6, xb1_0] at h
      exact fin ⟨rfl, rfl⟩ h
/-- a sign's code -/
def cdF (c : Int) : Int := if 65 ≤ c ∧ c ≤ 90 then c - 64 else if 48 ≤ c ∧ c ≤ 57 then c - 21 else 0
theorem cdF_eq (c : Int) : (if 65 ≤ c ∧ c ≤ 90 then zw (zw (c - 65) + 1) else if 48 ≤ c ∧ c ≤ 57 then zw (zw (c - 48) + 27) else 0) = cdF c := by
  unfold cdF
  by_cases a : 65 ≤ c ∧ c ≤ 90
  · rw [if_pos a, if_pos a, zw_lit (x := c - 65) (by omega) (by omega), zw_lit (by omega) (by omega)]
    omega
  · rw [if_neg a, if_neg a]
    by_cases b : 48 ≤ c ∧ c ≤ 57
    · rw [if_pos b, if_pos b, zw_lit (x := c - 48) (by omega) (by omega), zw_lit (by omega) (by omega)]
      omega
    · rw [if_neg b, if_neg b]
theorem cdF_oc {c : Int} (h : ¬ cdF c = 0) : 1 ≤ cdF c ∧ cdF c ≤ 36 ∧ ocF (cdF c) = c ∧ 48 ≤ c := by
  unfold cdF at h ⊢
  unfold ocF
  split
  · omega
  · split
    · omega
    · rename_i a b
      rw [if_neg a, if_neg b] at h
      exact (h rfl).elim
theorem sp_X10_sign (sz a : Int) (w : Int → Int) (H : PH) (hT : TP sz w a H) : SPEC 102 [(2, 213)] H (fun r H' => PF H H' ∧ r = some (0, cdF (nxF sz w a)) ∧ (¬ cdF (nxF sz w a) = 0 → TP sz w (a + 1) H')) := by
  intro E n res h
  have en := TP_nx hT
  have e2 := hT.2.2.1
  have ec := cdF_eq (nxF sz w a)
  by_cases q : cdF (nxF sz w a) = 0
  · have h := call_runP 2 vm_X10_sign h
    have h := xw_top (hd := []) 4 xD6_ok xc_X10_sign xa_X10_sign (t := 0) rfl h
    simp (maxDischargeDepth := 12) -implicitDefEqProofs [vb_X10_sign_0, vb_X10_sign_23, xI_0, xI_1, xI_3, xI_7, xI_14, xI_33, xI_35, xI_38, xI_49, xI_50, xI_60, xI_61, xI_62, xw_X10_sign_0, xw_X10_sign_23, zw_lit, xB_c, xB_s, xB_n, i1_c, j2_c, k1_c, jJ_e, xlg, xls, xla, xpd, ppush, zw_m1, zw_m2, zw_m3, gf_10_2, pf_10_2, tg_10_2, gv_213_2, xD1, xD2, xD3, xD4, xD5, xD6, xb1_0, en, e2, ec, q] at h
    obtain ⟨r, H2, ⟨rfl, rfl⟩, h⟩ := xc_use h (sp_X10_fail a H)
    simp (maxDischargeDepth := 12) -implicitDefEqProofs [vb_X10_sign_0, vb_X10_sign_23, xI_0, xI_1, xI_3, xI_7, xI_14, xI_33, xI_35, xI_38, xI_49, xI_50, xI_60, xI_61, xI_62, xw_X10_sign_0, xw_X10_sign_23, zw_lit, xB_c, xB_s, xB_n, i1_c, j2_c, k1_c, jJ_e, xlg, xls, xla, xpd, ppush, zw_m1, zw_m2, zw_m3, gf_10_2, pf_10_2, tg_10_2, gv_213_2, xD1, xD2, xD3, xD4, xD5, xD6, xb1_0] at h
    exact ⟨_, _, h, PF_up (Or.inr rfl), by rw [q], fun e => (e q).elim⟩
  · have hl : a < sz := nxF_lt (w := w) rfl (by have := (cdF_oc q).2.2.2; omega)
    have z1 : zw (a + 1) = a + 1 := zw_lit (by have := hT.2.2; omega) (by have := hT.2.2; omega)
    have h := call_runP 2 vm_X10_sign h
    have h := xw_top (hd := []) 4 xD6_ok xc_X10_sign xa_X10_sign (t := 0) rfl h
    simp (maxDischargeDepth := 12) -implicitDefEqProofs [vb_X10_sign_0, vb_X10_sign_23, xI_0, xI_1, xI_3, xI_7, xI_14, xI_33, xI_35, xI_38, xI_49, xI_50, xI_60, xI_61, xI_62, xw_X10_sign_0, xw_X10_sign_23, zw_lit, xB_c, xB_s, xB_n, i1_c, j2_c, k1_c, jJ_e, xlg, xls, xla, xpd, ppush, zw_m1, zw_m2, zw_m3, gf_10_2, pf_10_2, tg_10_2, gv_213_2, xD1, xD2, xD3, xD4, xD5, xD6, xb1_0, en, e2, ec, q, z1] at h
    exact ⟨_, _, h, PF_up (Or.inl rfl), rfl, fun _ => TP_up hT hl⟩
