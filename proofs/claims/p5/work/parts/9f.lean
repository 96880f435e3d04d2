theorem gf_12_7 : gfOK 12 7 = true := by decide +kernel
theorem pf_12_5 : pfOK 12 5 = true := by decide +kernel
theorem pf_12_6 : pfOK 12 6 = true := by decide +kernel
theorem pf_12_7 : pfOK 12 7 = true := by decide +kernel
def xm_X12_fails : List xbT := [(0, vb_X12_fails_0, none)]
theorem xc_X12_fails : xOK kd_X12_fails xm_X12_fails := ⟨ve_X12_fails_0, trivial⟩
theorem xa_X12_fails : xm_X12_fails.all (fun q => aOKb q.2.1 && !q.2.1.isEmpty) = true := by decide +kernel
theorem xw_X12_fails_0 {E : xE} {res : xR} {N : Nat} {hd : List Nat} {C : xCT} {k : Nat} {L : List Int} {st : List pv} {H : PH} : xW E res N kd_X12_fails xm_X12_fails hd C (k + 1) 0 L st H = xB (fun t L st H => if t ∈ hd then xJ E res N kd_X12_fails t L st H else xW E res N kd_X12_fails xm_X12_fails hd C k t L st H) (REPR E res) C (none) vb_X12_fails_0 0 L st H := Eq.trans rfl rfl
def xm_X12_takes : List xbT := [(0, vb_X12_takes_0, some 17), (17, vb_X12_takes_17, none)]
theorem xc_X12_takes : xOK kd_X12_takes xm_X12_takes := ⟨ve_X12_takes_0, ve_X12_takes_17, trivial⟩
theorem xa_X12_takes : xm_X12_takes.all (fun q => aOKb q.2.1 && !q.2.1.isEmpty) = true := by decide +kernel
theorem xw_X12_takes_0 {E : xE} {res : xR} {N : Nat} {hd : List Nat} {C : xCT} {k : Nat} {L : List Int} {st : List pv} {H : PH} : xW E res N kd_X12_takes xm_X12_takes hd C (k + 1) 0 L st H = xB (fun t L st H => if t ∈ hd then xJ E res N kd_X12_takes t L st H else xW E res N kd_X12_takes xm_X12_takes hd C k t L st H) (REPR E res) C (some 17) vb_X12_takes_0 0 L st H := Eq.trans rfl rfl
theorem xw_X12_takes_17 {E : xE} {res : xR} {N : Nat} {hd : List Nat} {C : xCT} {k : Nat} {L : List Int} {st : List pv} {H : PH} : xW E res N kd_X12_takes xm_X12_takes hd C (k + 1) 17 L st H = xB (fun t L st H => if t ∈ hd then xJ E res N kd_X12_takes t L st H else xW E res N kd_X12_takes xm_X12_takes hd C k t L st H) (REPR E res) C (none) vb_X12_takes_17 17 L st H := Eq.trans rfl rfl
def xm_X12_readOne : List xbT := [(0, vb_X12_readOne_0, some 25), (25, vb_X12_readOne_25, none)]
theorem xc_X12_readOne : xOK kd_X12_readOne xm_X12_readOne := ⟨ve_X12_readOne_0, ve_X12_readOne_25, trivial⟩
theorem xa_X12_readOne : xm_X12_readOne.all (fun q => aOKb q.2.1 && !q.2.1.isEmpty) = true := by decide +kernel
theorem xw_X12_readOne_0 {E : xE} {res : xR} {N : Nat} {hd : List Nat} {C : xCT} {k : Nat} {L : List Int} {st : List pv} {H : PH} : xW E res N kd_X12_readOne xm_X12_readOne hd C (k + 1) 0 L st H = xB (fun t L st H => if t ∈ hd then xJ E res N kd_X12_readOne t L st H else xW E res N kd_X12_readOne xm_X12_readOne hd C k t L st H) (REPR E res) C (some 25) vb_X12_readOne_0 0 L st H := Eq.trans rfl rfl
theorem xw_X12_readOne_25 {E : xE} {res : xR} {N : Nat} {hd : List Nat} {C : xCT} {k : Nat} {L : List Int} {st : List pv} {H : PH} : xW E res N kd_X12_readOne xm_X12_readOne hd C (k + 1) 25 L st H = xB (fun t L st H => if t ∈ hd then xJ E res N kd_X12_readOne t L st H else xW E res N kd_X12_readOne xm_X12_readOne hd C k t L st H) (REPR E res) C (none) vb_X12_readOne_25 25 L st H := Eq.trans rfl rfl
def xm_X12_readDigits : List xbT := [(0, vb_X12_readDigits_0, some 19), (19, vb_X12_readDigits_19, some 29), (29, vb_X12_readDigits_29, some 81), (81, vb_X12_readDigits_81, some 102), (102, vb_X12_readDigits_102, some 106), (106, vb_X12_readDigits_106, some 107), (107, vb_X12_readDigits_107, none)]
theorem xc_X12_readDigits : xOK kd_X12_readDigits xm_X12_readDigits := ⟨ve_X12_readDigits_0, ve_X12_readDigits_19, ve_X12_readDigits_29, ve_X12_readDigits_81, ve_X12_readDigits_102, ve_X12_readDigits_106, ve_X12_readDigits_107, trivial⟩
theorem xa_X12_readDigits : xm_X12_readDigits.all (fun q => aOKb q.2.1 && !q.2.1.isEmpty) = true := by decide +kernel
theorem xw_X12_readDigits_0 {E : xE} {res : xR} {N : Nat} {hd : List Nat} {C : xCT} {k : Nat} {L : List Int} {st : List pv} {H : PH} : xW E res N kd_X12_readDigits xm_X12_readDigits hd C (k + 1) 0 L st H = xB (fun t L st H => if t ∈ hd then xJ E res N kd_X12_readDigits t L st H else xW E res N kd_X12_readDigits xm_X12_readDigits hd C k t L st H) (REPR E res) C (some 19) vb_X12_readDigits_0 0 L st H := Eq.trans rfl rfl
theorem xw_X12_readDigits_19 {E : xE} {res : xR} {N : Nat} {hd : List Nat} {C : xCT} {k : Nat} {L : List Int} {st : List pv} {H : PH} : xW E res N kd_X12_readDigits xm_X12_readDigits hd C (k + 1) 19 L st H = xB (fun t L st H => if t ∈ hd then xJ E res N kd_X12_readDigits t L st H else xW E res N kd_X12_readDigits xm_X12_readDigits hd C k t L st H) (REPR E res) C (some 29) vb_X12_readDigits_19 19 L st H := Eq.trans rfl rfl
theorem xw_X12_readDigits_29 {E : xE} {res : xR} {N : Nat} {hd : List Nat} {C : xCT} {k : Nat} {L : List Int} {st : List pv} {H : PH} : xW E res N kd_X12_readDigits xm_X12_readDigits hd C (k + 1) 29 L st H = xB (fun t L st H => if t ∈ hd then xJ E res N kd_X12_readDigits t L st H else xW E res N kd_X12_readDigits xm_X12_readDigits hd C k t L st H) (REPR E res) C (some 81) vb_X12_readDigits_29 29 L st H := Eq.trans rfl rfl
theorem xw_X12_readDigits_81 {E : xE} {res : xR} {N : Nat} {hd : List Nat} {C : xCT} {k : Nat} {L : List Int} {st : List pv} {H : PH} : xW E res N kd_X12_readDigits xm_X12_readDigits hd C (k + 1) 81 L st H = xB (fun t L st H => if t ∈ hd then xJ E res N kd_X12_readDigits t L st H else xW E res N kd_X12_readDigits xm_X12_readDigits hd C k t L st H) (REPR E res) C (some 102) vb_X12_readDigits_81 81 L st H := Eq.trans rfl rfl
theorem xw_X12_readDigits_102 {E : xE} {res : xR} {N : Nat} {hd : List Nat} {C : xCT} {k : Nat} {L : List Int} {st : List pv} {H : PH} : xW E res N kd_X12_readDigits xm_X12_readDigits hd C (k + 1) 102 L st H = xB (fun t L st H => if t ∈ hd then xJ E res N kd_X12_readDigits t L st H else xW E res N kd_X12_readDigits xm_X12_readDigits hd C k t L st H) (REPR E res) C (some 106) vb_X12_readDigits_102 102 L st H := Eq.trans rfl rfl
theorem xw_X12_readDigits_106 {E : xE} {res : xR} {N : Nat} {hd : List Nat} {C : xCT} {k : Nat} {L : List Int} {st : List pv} {H : PH} : xW E res N kd_X12_readDigits xm_X12_readDigits hd C (k + 1) 106 L st H = xB (fun t L st H => if t ∈ hd then xJ E res N kd_X12_readDigits t L st H else xW E res N kd_X12_readDigits xm_X12_readDigits hd C k t L st H) (REPR E res) C (some 107) vb_X12_readDigits_106 106 L st H := Eq.trans rfl rfl
theorem xw_X12_readDigits_107 {E : xE} {res : xR} {N : Nat} {hd : List Nat} {C : xCT} {k : Nat} {L : List Int} {st : List pv} {H : PH} : xW E res N kd_X12_readDigits xm_X12_readDigits hd C (k + 1) 107 L st H = xB (fun t L st H => if t ∈ hd then xJ E res N kd_X12_readDigits t L st H else xW E res N kd_X12_readDigits xm_X12_readDigits hd C k t L st H) (REPR E res) C (none) vb_X12_readDigits_107 107 L st H := Eq.trans rfl rfl
def xm_X12_readCount : List xbT := [(0, vb_X12_readCount_0, some 17), (17, vb_X12_readCount_17, some 28), (28, vb_X12_readCount_28, some 32), (32, vb_X12_readCount_32, some 33), (33, vb_X12_readCount_33, none)]
theorem xc_X12_readCount : xOK kd_X12_readCount xm_X12_readCount := ⟨ve_X12_readCount_0, ve_X12_readCount_17, ve_X12_readCount_28, ve_X12_readCount_32, ve_X12_readCount_33, trivial⟩
theorem xa_X12_readCount : xm_X12_readCount.all (fun q => aOKb q.2.1 && !q.2.1.isEmpty) = true := by decide +kernel
theorem xw_X12_readCount_0 {E : xE} {res : xR} {N : Nat} {hd : List Nat} {C : xCT} {k : Nat} {L : List Int} {st : List pv} {H : PH} : xW E res N kd_X12_readCount xm_X12_readCount hd C (k + 1) 0 L st H = xB (fun t L st H => if t ∈ hd then xJ E res N kd_X12_readCount t L st H else xW E res N kd_X12_readCount xm_X12_readCount hd C k t L st H) (REPR E res) C (some 17) vb_X12_readCount_0 0 L st H := Eq.trans rfl rfl
theorem xw_X12_readCount_17 {E : xE} {res : xR} {N : Nat} {hd : List Nat} {C : xCT} {k : Nat} {L : List Int} {st : List pv} {H : PH} : xW E res N kd_X12_readCount xm_X12_readCount hd C (k + 1) 17 L st H = xB (fun t L st H => if t ∈ hd then xJ E res N kd_X12_readCount t L st H else xW E res N kd_X12_readCount xm_X12_readCount hd C k t L st H) (REPR E res) C (some 28) vb_X12_readCount_17 17 L st H := Eq.trans rfl rfl
theorem xw_X12_readCount_28 {E : xE} {res : xR} {N : Nat} {hd : List Nat} {C : xCT} {k : Nat} {L : List Int} {st : List pv} {H : PH} : xW E res N kd_X12_readCount xm_X12_readCount hd C (k + 1) 28 L st H = xB (fun t L st H => if t ∈ hd then xJ E res N kd_X12_readCount t L st H else xW E res N kd_X12_readCount xm_X12_readCount hd C k t L st H) (REPR E res) C (some 32) vb_X12_readCount_28 28 L st H := Eq.trans rfl rfl
theorem xw_X12_readCount_32 {E : xE} {res : xR} {N : Nat} {hd : List Nat} {C : xCT} {k : Nat} {L : List Int} {st : List pv} {H : PH} : xW E res N kd_X12_readCount xm_X12_readCount hd C (k + 1) 32 L st H = xB (fun t L st H => if t ∈ hd then xJ E res N kd_X12_readCount t L st H else xW E res N kd_X12_readCount xm_X12_readCount hd C k t L st H) (REPR E res) C (some 33) vb_X12_readCount_32 32 L st H := Eq.trans rfl rfl
theorem xw_X12_readCount_33 {E : xE} {res : xR} {N : Nat} {hd : List Nat} {C : xCT} {k : Nat} {L : List Int} {st : List pv} {H : PH} : xW E res N kd_X12_readCount xm_X12_readCount hd C (k + 1) 33 L st H = xB (fun t L st H => if t ∈ hd then xJ E res N kd_X12_readCount t L st H else xW E res N kd_X12_readCount xm_X12_readCount hd C k t L st H) (REPR E res) C (none) vb_X12_readCount_33 33 L st H := Eq.trans rfl rfl
def xm_X12_readMark : List xbT := [(0, vb_X12_readMark_0, some 3), (3, vb_X12_readMark_3, some 26), (26, vb_X12_readMark_26, some 42), (42, vb_X12_readMark_42, some 71), (71, vb_X12_readMark_71, some 95), (95, vb_X12_readMark_95, some 99), (99, vb_X12_readMark_99, some 100), (100, vb_X12_readMark_100, none)]
theorem xc_X12_readMark : xOK kd_X12_readMark xm_X12_readMark := ⟨ve_X12_readMark_0, ve_X12_readMark_3, ve_X12_readMark_26, ve_X12_readMark_42, ve_X12_readMark_71, ve_X12_readMark_95, ve_X12_readMark_99, ve_X12_readMark_100, trivial⟩
theorem xa_X12_readMark : xm_X12_readMark.all (fun q => aOKb q.2.1 && !q.2.1.isEmpty) = true := by decide +kernel
theorem xw_X12_readMark_0 {E : xE} {res : xR} {N : Nat} {hd : List Nat} {C : xCT} {k : Nat} {L : List Int} {st : List pv} {H : PH} : xW E res N kd_X12_readMark xm_X12_readMark hd C (k + 1) 0 L st H = xB (fun t L st H => if t ∈ hd then xJ E res N kd_X12_readMark t L st H else xW E res N kd_X12_readMark xm_X12_readMark hd C k t L st H) (REPR E res) C (some 3) vb_X12_readMark_0 0 L st H := Eq.trans rfl rfl
theorem xw_X12_readMark_3 {E : xE} {res : xR} {N : Nat} {hd : List Nat} {C : xCT} {k : Nat} {L : List Int} {st : List pv} {H : PH} : xW E res N kd_X12_readMark xm_X12_readMark hd C (k + 1) 3 L st H = xB (fun t L st H => if t ∈ hd then xJ E res N kd_X12_readMark t L st H else xW E res N kd_X12_readMark xm_X12_readMark hd C k t L st H) (REPR E res) C (some 26) vb_X12_readMark_3 3 L st H := Eq.trans rfl rfl
theorem xw_X12_readMark_26 {E : xE} {res : xR} {N : Nat} {hd : List Nat} {C : xCT} {k : Nat} {L : List Int} {st : List pv} {H : PH} : xW E res N kd_X12_readMark xm_X12_readMark hd C (k + 1) 26 L st H = xB (fun t L st H => if t ∈ hd then xJ E res N kd_X12_readMark t L st H else xW E res N kd_X12_readMark xm_X12_readMark hd C k t L st H) (REPR E res) C (some 42) vb_X12_readMark_26 26 L st H := Eq.trans rfl rfl
theorem xw_X12_readMark_42 {E : xE} {res : xR} {N : Nat} {hd : List Nat} {C : xCT} {k : Nat} {L : List Int} {st : List pv} {H : PH} : xW E res N kd_X12_readMark xm_X12_readMark hd C (k + 1) 42 L st H = xB (fun t L st H => if t ∈ hd then xJ E res N kd_X12_readMark t L st H else xW E res N kd_X12_readMark xm_X12_readMark hd C k t L st H) (REPR E res) C (some 71) vb_X12_readMark_42 42 L st H := Eq.trans rfl rfl
theorem xw_X12_readMark_71 {E : xE} {res : xR} {N : Nat} {hd : List Nat} {C : xCT} {k : Nat} {L : List Int} {st : List pv} {H : PH} : xW E res N kd_X12_readMark xm_X12_readMark hd C (k + 1) 71 L st H = xB (fun t L st H => if t ∈ hd then xJ E res N kd_X12_readMark t L st H else xW E res N kd_X12_readMark xm_X12_readMark hd C k t L st H) (REPR E res) C (some 95) vb_X12_readMark_71 71 L st H := Eq.trans rfl rfl
theorem xw_X12_readMark_95 {E : xE} {res : xR} {N : Nat} {hd : List Nat} {C : xCT} {k : Nat} {L : List Int} {st : List pv} {H : PH} : xW E res N kd_X12_readMark xm_X12_readMark hd C (k + 1) 95 L st H = xB (fun t L st H => if t ∈ hd then xJ E res N kd_X12_readMark t L st H else xW E res N kd_X12_readMark xm_X12_readMark hd C k t L st H) (REPR E res) C (some 99) vb_X12_readMark_95 95 L st H := Eq.trans rfl rfl
theorem xw_X12_readMark_99 {E : xE} {res : xR} {N : Nat} {hd : List Nat} {C : xCT} {k : Nat} {L : List Int} {st : List pv} {H : PH} : xW E res N kd_X12_readMark xm_X12_readMark hd C (k + 1) 99 L st H = xB (fun t L st H => if t ∈ hd then xJ E res N kd_X12_readMark t L st H else xW E res N kd_X12_readMark xm_X12_readMark hd C k t L st H) (REPR E res) C (some 100) vb_X12_readMark_99 99 L st H := Eq.trans rfl rfl
theorem xw_X12_readMark_100 {E : xE} {res : xR} {N : Nat} {hd : List Nat} {C : xCT} {k : Nat} {L : List Int} {st : List pv} {H : PH} : xW E res N kd_X12_readMark xm_X12_readMark hd C (k + 1) 100 L st H = xB (fun t L st H => if t ∈ hd then xJ E res N kd_X12_readMark t L st H else xW E res N kd_X12_readMark xm_X12_readMark hd C k t L st H) (REPR E res) C (none) vb_X12_readMark_100 100 L st H := Eq.trans rfl rfl
/-! the model's tape, read -/
def TMt (sz : Int) (w : Int → Int) (a : Int) (H : PH) : Prop := H 590 4 = sz ∧ (∀ i, 0 ≤ i → i < sz → q2 (· &&& ·) (H 593 i) 255 = w i) ∧ H 590 5 = a ∧ 0 ≤ a ∧ a ≤ sz ∧ sz ≤ 600
def PMt (H H' : PH) : Prop := (∀ c, ¬ c = 590 → H' c = H c) ∧ ∀ i, ¬ i = 5 → ¬ i = 6 → ¬ i = 7 → H' 590 i = H 590 i
theorem PMt_refl {H : PH} : PMt H H := ⟨fun _ _ => rfl, fun _ _ _ _ => rfl⟩
theorem PMt_trans {H H1 H2 : PH} (a : PMt H H1) (b : PMt H1 H2) : PMt H H2 := ⟨fun c h => (b.1 c h).trans (a.1 c h), fun i h1 h2 h3 => (b.2 i h1 h2 h3).trans (a.2 i h1 h2 h3)⟩
theorem PMt_up {H : PH} {i v : Int} (h : i = 5 ∨ i = 6 ∨ i = 7) : PMt H (pup H 590 i v) := ⟨fun c hc => xp_ne hc, fun j h1 h2 h3 => by rw [xp_at, if_neg (by omega)]⟩
theorem TMt_he {sz a : Int} {w : Int → Int} {H : PH} (h : TMt sz w a H) : heV H = nxF sz w a := by
  obtain ⟨h1, h2, h3, h4, h5, h6⟩ := h
  unfold heV nxF
  rw [h1, h3]
  split
  · exact h2 a h4 (by assumption)
  · rfl
theorem TMt_eq {sz a b : Int} {w : Int → Int} {H H' : PH} (h : TMt sz w a H) (h4 : H' 590 4 = H 590 4) (h3 : H' 593 = H 593) (h5 : H' 590 5 = b) (hb : 0 ≤ b ∧ b ≤ sz) : TMt sz w b H' := ⟨h4.trans h.1, by rw [h3]; exact h.2.1, h5, hb.1, hb.2, h.2.2.2.2.2⟩
theorem TMt_up {sz a : Int} {w : Int → Int} {H : PH} (h : TMt sz w a H) (ha : a < sz) : TMt sz w (a + 1) (pup H 590 5 (a + 1)) := TMt_eq h (by rw [xp_at, if_neg (by decide)]) (xp_ne (by decide)) (by rw [xp_at, if_pos rfl]) (by have := h.2.2.2.1; omega)
theorem TMt_n {sz a : Int} {w : Int → Int} {H : PH} {v : Int} (h : TMt sz w a H) : TMt sz w a (pup H 590 7 v) := TMt_eq h (by rw [xp_at, if_neg (by decide)]) (xp_ne (by decide)) (by rw [xp_at, if_neg (by decide)]; exact h.2.2.1) ⟨h.2.2.2.1, h.2.2.2.2.1⟩
theorem sp_X12_fails (p : Int) (H : PH) : SPEC 166 [(2, 590), (0, p)] H (fun r H' => r = some (0, 0) ∧ H' = (pup H 590 6 p)) := by
  intro E n res h
  have h := call_runP 2 vm_X12_fails h
  have h := xw_top (hd := []) 3 xD6_ok xc_X12_fails xa_X12_fails (t := 0) rfl h
  simp (maxDischargeDepth := 12) -implicitDefEqProofs [vb_X12_fails_0, xI_0, xI_1, xI_7, xI_50, xI_62, xw_X12_fails_0, zw_lit, xB_c, xB_s, xB_n, i1_c, j2_c, k1_c, jJ_e, xlg, xls, xla, xpd, ppush, zw_m1, zw_m2, zw_m3, pf_12_6, tg_12_6, xD1, xD2, xD3, xD4, xD5, xD6, xb1_0] at h
  repeat' (first | (refine Or.elim h ?_ ?_ <;> clear h <;> intro h) | (refine And.elim ?_ h; clear h; intro _ h))
  all_goals refine ⟨_, _, h, ?_, rfl⟩
  all_goals (first | rfl | (congr 2; (repeat' split) <;> first | rfl | omega))
theorem sp_X12_takes (c : Int) (sz a : Int) (w : Int → Int) (H : PH) (hT : TMt sz w a H) (hc : 0 ≤ c) : SPEC 167 [(2, 590), (0, c)] H (fun r H' => PMt H H' ∧ H' 590 7 = H 590 7 ∧ ((nxF sz w a = c ∧ r = some (0, 1) ∧ TMt sz w (a + 1) H') ∨ (¬ nxF sz w a = c ∧ r = some (0, 0)))) := by
  intro E n res h
  have en := TMt_he hT
  have e2 := hT.2.2.1
  by_cases q : nxF sz w a = c
  · have hl := nxF_lt q hc
    have z1 : zw (a + 1) = a + 1 := zw_lit (by have := hT.2.2; omega) (by have := hT.2.2; omega)
    have h := call_runP 2 vm_X12_takes h
    have h := xw_top (hd := []) 4 xD6_ok xc_X12_takes xa_X12_takes (t := 0) rfl h
    simp (maxDischargeDepth := 12) -implicitDefEqProofs [vb_X12_takes_0, vb_X12_takes_17, xI_0, xI_1, xI_7, xI_14, xI_33, xI_43, xI_49, xI_50, xI_61, xI_62, xw_X12_takes_0, xw_X12_takes_17, zw_lit, xB_c, xB_s, xB_n, i1_c, j2_c, k1_c, jJ_e, xlg, xls, xla, xpd, ppush, zw_m1, zw_m2, zw_m3, gf_12_5, pf_12_5, tg_12_5, gv_590_5, xD1, xD2, xD3, xD4, xD5, xD6, xb1_0, en, e2, q, z1] at h
    exact ⟨_, _, h, PMt_up (Or.inl rfl), by rw [xp_at, if_neg (by decide)], Or.inl ⟨q, rfl, TMt_up hT hl⟩⟩
  · have h := call_runP 2 vm_X12_takes h
    have h := xw_top (hd := []) 4 xD6_ok xc_X12_takes xa_X12_takes (t := 0) rfl h
    simp (maxDischargeDepth := 12) -implicitDefEqProofs [vb_X12_takes_0, vb_X12_takes_17, xI_0, xI_1, xI_7, xI_14, xI_33, xI_43, xI_49, xI_50, xI_61, xI_62, xw_X12_takes_0, xw_X12_takes_17, zw_lit, xB_c, xB_s, xB_n, i1_c, j2_c, k1_c, jJ_e, xlg, xls, xla, xpd, ppush, zw_m1, zw_m2, zw_m3, gf_12_5, pf_12_5, tg_12_5, gv_590_5, xD1, xD2, xD3, xD4, xD5, xD6, xb1_0, en, e2, q] at h
    obtain ⟨r, H2, ⟨rfl, rfl⟩, h⟩ := xc_use h (sp_X12_fails a H)
    simp (maxDischargeDepth := 12) -implicitDefEqProofs [vb_X12_takes_0, vb_X12_takes_17, xI_0, xI_1, xI_7, xI_14, xI_33, xI_43, xI_49, xI_50, xI_61, xI_62, xw_X12_takes_0, xw_X12_takes_17, zw_lit, xB_c, xB_s, xB_n, i1_c, j2_c, k1_c, jJ_e, xlg, xls, xla, xpd, ppush, zw_m1, zw_m2, zw_m3, gf_12_5, pf_12_5, tg_12_5, gv_590_5, xD1, xD2, xD3, xD4, xD5, xD6, xb1_0] at h
    exact ⟨_, _, h, PMt_up (Or.inr (Or.inl rfl)), by rw [xp_at, if_neg (by decide)], Or.inr ⟨q, rfl⟩⟩
theorem sp_X12_readOne (m : Int) (sz a : Int) (w : Int → Int) (H : PH) (hT : TMt sz w a H) (hm : 0 ≤ m ∧ m ≤ 9) : SPEC 171 [(2, 590), (0, m)] H (fun r H' => PMt H H' ∧ (((48 ≤ nxF sz w a ∧ nxF sz w a ≤ 48 + m) ∧ r = some (0, 1) ∧ TMt sz w (a + 1) H' ∧ H' 590 7 = nxF sz w a - 48) ∨ (¬ (48 ≤ nxF sz w a ∧ nxF sz w a ≤ 48 + m) ∧ r = some (0, 0)))) := by
  intro E n res h
  have en := TMt_he hT
  have e2 := hT.2.2.1
  have z0 : zw (48 + m) = 48 + m := zw_lit (by omega) (by omega)
  by_cases q : 48 ≤ nxF sz w a ∧ nxF sz w a ≤ 48 + m
  · have hl : a < sz := by
      by_cases e : a < sz
      · exact e
      · unfold nxF at q
        rw [if_neg e] at q
        omega
    have z1 : zw (a + 1) = a + 1 := zw_lit (by have := hT.2.2; omega) (by have := hT.2.2; omega)
    have z2 : zw (nxF sz w a - 48) = nxF sz w a - 48 := zw_lit (by omega) (by omega)
    have h := call_runP 2 vm_X12_readOne h
    have h := xw_top (hd := []) 4 xD6_ok xc_X12_readOne xa_X12_readOne (t := 0) rfl h
    simp (maxDischargeDepth := 12) -implicitDefEqProofs [vb_X12_readOne_0, vb_X12_readOne_25, xI_0, xI_1, xI_7, xI_8, xI_14, xI_15, xI_33, xI_38, xI_49, xI_50, xI_60, xI_61, xI_62, xw_X12_readOne_0, xw_X12_readOne_25, zw_lit, xB_c, xB_s, xB_n, i1_c, j2_c, k1_c, jJ_e, xlg, xls, xla, xpd, ppush, zw_m1, zw_m2, zw_m3, gf_12_5, pf_12_5, pf_12_7, tg_12_5, tg_12_7, gv_590_5, xD1, xD2, xD3, xD4, xD5, xD6, xb1_0, en, e2, z0, z1, z2, xp_at] at h
    have h := (h.resolve_right (by omega)).2
    exact ⟨_, _, h, PMt_trans (PMt_up (Or.inr (Or.inr rfl))) (PMt_up (Or.inl rfl)), Or.inl ⟨q, rfl, TMt_up (TMt_n hT) hl, by rw [xp_at, if_neg (by decide), xp_at, if_pos rfl]⟩⟩
  · have h := call_runP 2 vm_X12_readOne h
    have h := xw_top (hd := []) 4 xD6_ok xc_X12_readOne xa_X12_readOne (t := 0) rfl h
    simp (maxDischargeDepth := 12) -implicitDefEqProofs [vb_X12_readOne_0, vb_X12_readOne_25, xI_0, xI_1, xI_7, xI_8, xI_14, xI_15, xI_33, xI_38, xI_49, xI_50, xI_60, xI_61, xI_62, xw_X12_readOne_0, xw_X12_readOne_25, zw_lit, xB_c, xB_s, xB_n, i1_c, j2_c, k1_c, jJ_e, xlg, xls, xla, xpd, ppush, zw_m1, zw_m2, zw_m3, gf_12_5, pf_12_5, pf_12_7, tg_12_5, tg_12_7, gv_590_5, xD1, xD2, xD3, xD4, xD5, xD6, xb1_0, en, e2, z0] at h
    have h := (h.resolve_left (by omega)).2
    obtain ⟨r, H2, ⟨rfl, rfl⟩, h⟩ := xc_use h (sp_X12_fails a H)
    simp (maxDischargeDepth := 12) -implicitDefEqProofs [vb_X12_readOne_0, vb_X12_readOne_25, xI_0, xI_1, xI_7, xI_8, xI_14, xI_15, xI_33, xI_38, xI_49, xI_50, xI_60, xI_61, xI_62, xw_X12_readOne_0, xw_X12_readOne_25, zw_lit, xB_c, xB_s, xB_n, i1_c, j2_c, k1_c, jJ_e, xlg, xls, xla, xpd, ppush, zw_m1, zw_m2, zw_m3, gf_12_5, pf_12_5, pf_12_7, tg_12_5, tg_12_7, gv_590_5, xD1, xD2, xD3, xD4, xD5, xD6, xb1_0] at h
    exact ⟨_, _, h, PMt_up (Or.inr (Or.inl rfl)), Or.inr ⟨q, rfl⟩⟩
theorem lp_rdig (m b : Int) (sz : Int) (w : Int → Int) (hw : ∀ i, 0 ≤ i → i < sz → 0 ≤ w i ∧ w i ≤ 255) {E : xE} {res : xR} : ∀ (n : Nat) (k : Nat) (a v : Int) (H : PH), TMt sz w a H → H 590 7 = v → m = a - b + k → 0 ≤ b ∧ b ≤ a → dB k v → RUN E res n kd_X12_readDigits (zget kd_X12_readDigits 29) 29 [590, m, b] [] H → ∃ H' : PH, PMt H H' ∧ ((¬ (48 ≤ nxF sz w (dgF sz w k a v).2 ∧ nxF sz w (dgF sz w k a v).2 ≤ 57) ∧ REPR E res (some (0, 1)) H' ∧ TMt sz w (dgF sz w k a v).2 H' ∧ H' 590 7 = (dgF sz w k a v).1 ∧ H' 590 6 = H 590 6) ∨ ((48 ≤ nxF sz w (dgF sz w k a v).2 ∧ nxF sz w (dgF sz w k a v).2 ≤ 57) ∧ REPR E res (some (0, 0)) H')) := by
  intro n
  induction n using Nat.strongRecOn with
  | _ n ih =>
    intro k a v H hT h7 hm hb hB h
    have en := TMt_he hT
    have e2 := hT.2.2.1
    have bd := hT.2.2
    unfold dB at hB
    have z0 : zw (a - b) = a - b := zw_lit (by omega) (by omega)
    by_cases c : 48 ≤ nxF sz w a ∧ nxF sz w a ≤ 57
    · have hl : a < sz := nxF_lt (w := w) rfl (by omega)
      have c3 : ¬ 57 < nxF sz w a := by omega
      by_cases q : 1 ≤ k
      · obtain ⟨j, rfl⟩ : ∃ j, k = j + 1 := ⟨k - 1, by omega⟩
        unfold dgF
        rw [if_pos c]
        have z1 : zw (a + 1) = a + 1 := zw_lit (by omega) (by omega)
        have z2 : zw (10 * v) = 10 * v := zw_lit (by omega) (by omega)
        have z3 : zw (10 * v + nxF sz w a) = 10 * v + nxF sz w a := zw_lit (by omega) (by omega)
        have z4 : zw (10 * v + nxF sz w a - 48) = 10 * v + nxF sz w a - 48 := zw_lit (by omega) (by omega)
        have h := xw_top (hd := [29]) 9 xD6_ok xc_X12_readDigits xa_X12_readDigits (t := 29) rfl h
        simp (maxDischargeDepth := 12) -implicitDefEqProofs [vb_X12_readDigits_0, vb_X12_readDigits_19, vb_X12_readDigits_29, vb_X12_readDigits_81, vb_X12_readDigits_102, vb_X12_readDigits_106, vb_X12_readDigits_107, xI_0, xI_1, xI_3, xI_7, xI_8, xI_14, xI_15, xI_16, xI_33, xI_36, xI_37, xI_38, xI_46, xI_49, xI_50, xI_60, xI_61, xI_62, xw_X12_readDigits_0, xw_X12_readDigits_19, xw_X12_readDigits_29, xw_X12_readDigits_81, xw_X12_readDigits_102, xw_X12_readDigits_106, xw_X12_readDigits_107, zw_lit, xB_c, xB_s, xB_n, i1_c, j2_c, k1_c, jJ_e, xlg, xls, xla, xpd, ppush, zw_m1, zw_m2, zw_m3, gf_12_5, gf_12_7, pf_12_5, pf_12_7, tg_12_5, tg_12_7, gv_590_5, gv_590_7, xD1, xD2, xD3, xD4, xD5, xD6, xb1_0, en, e2, h7, z0, z1, z2, z3, z4, c, c3, xp_at] at h
        have h := (h.resolve_left (by omega)).2
        obtain ⟨i, hi, h⟩ := h
        obtain ⟨H', g1, g2⟩ := ih i hi j (a + 1) _ _ (TMt_up (TMt_n hT) hl) (by rw [xp_at, if_neg (by decide), xp_at, if_pos rfl]) (by omega) (by omega) (by unfold dB; omega) h
        refine ⟨H', PMt_trans (PMt_trans (PMt_up (Or.inr (Or.inr rfl))) (PMt_up (Or.inl rfl))) g1, ?_⟩
        rcases g2 with ⟨c', g, t, s, s6⟩ | g2
        · exact Or.inl ⟨c', g, t, s, by rw [s6, xp_at, if_neg (by decide), xp_at, if_neg (by decide)]⟩
        · exact Or.inr g2
      · have e : k = 0 := by omega
        subst e
        have ed : dgF sz w 0 a v = (v, a) := rfl
        rw [ed]
        have h := xw_top (hd := [29]) 9 xD6_ok xc_X12_readDigits xa_X12_readDigits (t := 29) rfl h
        simp (maxDischargeDepth := 12) -implicitDefEqProofs [vb_X12_readDigits_0, vb_X12_readDigits_19, vb_X12_readDigits_29, vb_X12_readDigits_81, vb_X12_readDigits_102, vb_X12_readDigits_106, vb_X12_readDigits_107, xI_0, xI_1, xI_3, xI_7, xI_8, xI_14, xI_15, xI_16, xI_33, xI_36, xI_37, xI_38, xI_46, xI_49, xI_50, xI_60, xI_61, xI_62, xw_X12_readDigits_0, xw_X12_readDigits_19, xw_X12_readDigits_29, xw_X12_readDigits_81, xw_X12_readDigits_102, xw_X12_readDigits_106, xw_X12_readDigits_107, zw_lit, xB_c, xB_s, xB_n, i1_c, j2_c, k1_c, jJ_e, xlg, xls, xla, xpd, ppush, zw_m1, zw_m2, zw_m3, gf_12_5, gf_12_7, pf_12_5, pf_12_7, tg_12_5, tg_12_7, gv_590_5, gv_590_7, xD1, xD2, xD3, xD4, xD5, xD6, xb1_0, en, e2, h7, z0, c, c3] at h
        have h := (h.resolve_right (by omega)).2
        obtain ⟨r, H2, ⟨rfl, rfl⟩, h⟩ := xc_use h (sp_X12_fails a H)
        simp (maxDischargeDepth := 12) -implicitDefEqProofs [vb_X12_readDigits_0, vb_X12_readDigits_19, vb_X12_readDigits_29, vb_X12_readDigits_81, vb_X12_readDigits_102, vb_X12_readDigits_106, vb_X12_readDigits_107, xI_0, xI_1, xI_3, xI_7, xI_8, xI_14, xI_15, xI_16, xI_33, xI_36, xI_37, xI_38, xI_46, xI_49, xI_50, xI_60, xI_61, xI_62, xw_X12_readDigits_0, xw_X12_readDigits_19, xw_X12_readDigits_29, xw_X12_readDigits_81, xw_X12_readDigits_102, xw_X12_readDigits_106, xw_X12_readDigits_107, zw_lit, xB_c, xB_s, xB_n, i1_c, j2_c, k1_c, jJ_e, xlg, xls, xla, xpd, ppush, zw_m1, zw_m2, zw_m3, gf_12_5, gf_12_7, pf_12_5, pf_12_7, tg_12_5, tg_12_7, gv_590_5, gv_590_7, xD1, xD2, xD3, xD4, xD5, xD6, xb1_0] at h
        exact ⟨_, PMt_up (Or.inr (Or.inl rfl)), Or.inr ⟨c, h⟩⟩
    · have ed : dgF sz w k a v = (v, a) := by
        cases k with
        | zero => rfl
        | succ j =>
          unfold dgF
          rw [if_neg c]
      rw [ed]
      have h := xw_top (hd := [29]) 9 xD6_ok xc_X12_readDigits xa_X12_readDigits (t := 29) rfl h
      simp (maxDischargeDepth := 12) -implicitDefEqProofs [vb_X12_readDigits_0, vb_X12_readDigits_19, vb_X12_readDigits_29, vb_X12_readDigits_81, vb_X12_readDigits_102, vb_X12_readDigits_106, vb_X12_readDigits_107, xI_0, xI_1, xI_3, xI_7, xI_8, xI_14, xI_15, xI_16, xI_33, xI_36, xI_37, xI_38, xI_46, xI_49, xI_50, xI_60, xI_61, xI_62, xw_X12_readDigits_0, xw_X12_readDigits_19, xw_X12_readDigits_29, xw_X12_readDigits_81, xw_X12_readDigits_102, xw_X12_readDigits_106, xw_X12_readDigits_107, zw_lit, xB_c, xB_s, xB_n, i1_c, j2_c, k1_c, jJ_e, xlg, xls, xla, xpd, ppush, zw_m1, zw_m2, zw_m3, gf_12_5, gf_12_7, pf_12_5, pf_12_7, tg_12_5, tg_12_7, gv_590_5, gv_590_7, xD1, xD2, xD3, xD4, xD5, xD6, xb1_0, en, e2, h7, z0, c] at h
      exact ⟨H, PMt_refl, Or.inl ⟨c, h.2, hT, h7, rfl⟩⟩
theorem sp_X12_readDigits (k : Nat) (m : Int) (sz a : Int) (w : Int → Int) (H : PH) (hm : m = k) (hk : 1 ≤ k ∧ k ≤ 4) (hT : TMt sz w a H) (hw : ∀ i, 0 ≤ i → i < sz → 0 ≤ w i ∧ w i ≤ 255) : SPEC 169 [(2, 590), (0, m)] H (fun r H' => PMt H H' ∧ ((((48 ≤ nxF sz w a ∧ nxF sz w a ≤ 57) ∧ ¬ (48 ≤ nxF sz w (dgF sz w k a 0).2 ∧ nxF sz w (dgF sz w k a 0).2 ≤ 57)) ∧ r = some (0, 1) ∧ TMt sz w (dgF sz w k a 0).2 H' ∧ H' 590 7 = (dgF sz w k a 0).1 ∧ H' 590 6 = H 590 6) ∨ (¬ ((48 ≤ nxF sz w a ∧ nxF sz w a ≤ 57) ∧ ¬ (48 ≤ nxF sz w (dgF sz w k a 0).2 ∧ nxF sz w (dgF sz w k a 0).2 ≤ 57)) ∧ r = some (0, 0)))) := by
  intro E n res h
  have en := TMt_he hT
  have e2 := hT.2.2.1
  by_cases q : 48 ≤ nxF sz w a ∧ nxF sz w a ≤ 57
  · have q3 : ¬ 57 < nxF sz w a := by omega
    have h := call_runP 3 vm_X12_readDigits h
    have h := xw_top (hd := [29]) 9 xD6_ok xc_X12_readDigits xa_X12_readDigits (t := 0) rfl h
    simp (maxDischargeDepth := 12) -implicitDefEqProofs [vb_X12_readDigits_0, vb_X12_readDigits_19, vb_X12_readDigits_29, vb_X12_readDigits_81, vb_X12_readDigits_102, vb_X12_readDigits_106, vb_X12_readDigits_107, xI_0, xI_1, xI_3, xI_7, xI_8, xI_14, xI_15, xI_16, xI_33, xI_36, xI_37, xI_38, xI_46, xI_49, xI_50, xI_60, xI_61, xI_62, xw_X12_readDigits_0, xw_X12_readDigits_19, xw_X12_readDigits_29, xw_X12_readDigits_81, xw_X12_readDigits_102, xw_X12_readDigits_106, xw_X12_readDigits_107, zw_lit, xB_c, xB_s, xB_n, i1_c, j2_c, k1_c, jJ_e, xlg, xls, xla, xpd, ppush, zw_m1, zw_m2, zw_m3, gf_12_5, gf_12_7, pf_12_5, pf_12_7, tg_12_5, tg_12_7, gv_590_5, gv_590_7, xD1, xD2, xD3, xD4, xD5, xD6, xb1_0, en, e2, q, q3] at h
    obtain ⟨i, hi, h⟩ := h
    obtain ⟨H', g1, g2⟩ := lp_rdig m a sz w hw i k a 0 _ (TMt_n hT) (by rw [xp_at, if_pos rfl]) (by omega) (by have := hT.2.2; omega) (by unfold dB; omega) h
    have pm := PMt_trans (PMt_up (Or.inr (Or.inr rfl))) g1
    rcases g2 with ⟨c, g, t, s, s6⟩ | ⟨c, g⟩
    · exact ⟨_, H', g, pm, Or.inl ⟨⟨q, c⟩, rfl, t, s, by rw [s6, xp_at, if_neg (by decide)]⟩⟩
    · exact ⟨_, H', g, pm, Or.inr ⟨fun p => p.2 c, rfl⟩⟩
  · have h := call_runP 3 vm_X12_readDigits h
    have h := xw_top (hd := [29]) 9 xD6_ok xc_X12_readDigits xa_X12_readDigits (t := 0) rfl h
    simp (maxDischargeDepth := 12) -implicitDefEqProofs [vb_X12_readDigits_0, vb_X12_readDigits_19, vb_X12_readDigits_29, vb_X12_readDigits_81, vb_X12_readDigits_102, vb_X12_readDigits_106, vb_X12_readDigits_107, xI_0, xI_1, xI_3, xI_7, xI_8, xI_14, xI_15, xI_16, xI_33, xI_36, xI_37, xI_38, xI_46, xI_49, xI_50, xI_60, xI_61, xI_62, xw_X12_readDigits_0, xw_X12_readDigits_19, xw_X12_readDigits_29, xw_X12_readDigits_81, xw_X12_readDigits_102, xw_X12_readDigits_106, xw_X12_readDigits_107, zw_lit, xB_c, xB_s, xB_n, i1_c, j2_c, k1_c, jJ_e, xlg, xls, xla, xpd, ppush, zw_m1, zw_m2, zw_m3, gf_12_5, gf_12_7, pf_12_5, pf_12_7, tg_12_5, tg_12_7, gv_590_5, gv_590_7, xD1, xD2, xD3, xD4, xD5, xD6, xb1_0, en, e2, q] at h
    obtain ⟨r, H2, ⟨rfl, rfl⟩, h⟩ := xc_use h.2 (sp_X12_fails a H)
    simp (maxDischargeDepth := 12) -implicitDefEqProofs [vb_X12_readDigits_0, vb_X12_readDigits_19, vb_X12_readDigits_29, vb_X12_readDigits_81, vb_X12_readDigits_102, vb_X12_readDigits_106, vb_X12_readDigits_107, xI_0, xI_1, xI_3, xI_7, xI_8, xI_14, xI_15, xI_16, xI_33, xI_36, xI_37, xI_38, xI_46, xI_49, xI_50, xI_60, xI_61, xI_62, xw_X12_readDigits_0, xw_X12_readDigits_19, xw_X12_readDigits_29, xw_X12_readDigits_81, xw_X12_readDigits_102, xw_X12_readDigits_106, xw_X12_readDigits_107, zw_lit, xB_c, xB_s, xB_n, i1_c, j2_c, k1_c, jJ_e, xlg, xls, xla, xpd, ppush, zw_m1, zw_m2, zw_m3, gf_12_5, gf_12_7, pf_12_5, pf_12_7, tg_12_5, tg_12_7, gv_590_5, gv_590_7, xD1, xD2, xD3, xD4, xD5, xD6, xb1_0] at h
    exact ⟨_, _, h, PMt_up (Or.inr (Or.inl rfl)), Or.inr ⟨fun p => q p.1, rfl⟩⟩
theorem sp_X12_readCount (k : Nat) (m : Int) (sz a : Int) (w : Int → Int) (H : PH) (hm : m = k) (hk : 1 ≤ k ∧ k ≤ 4) (hT : TMt sz w a H) (hw : ∀ i, 0 ≤ i → i < sz → 0 ≤ w i ∧ w i ≤ 255) : SPEC 170 [(2, 590), (0, m)] H (fun r H' => PMt H H' ∧ ((((49 ≤ nxF sz w a ∧ nxF sz w a ≤ 57) ∧ ¬ (48 ≤ nxF sz w (dgF sz w k a 0).2 ∧ nxF sz w (dgF sz w k a 0).2 ≤ 57)) ∧ r = some (0, 1) ∧ TMt sz w (dgF sz w k a 0).2 H' ∧ H' 590 7 = (dgF sz w k a 0).1) ∨ (¬ ((49 ≤ nxF sz w a ∧ nxF sz w a ≤ 57) ∧ ¬ (48 ≤ nxF sz w (dgF sz w k a 0).2 ∧ nxF sz w (dgF sz w k a 0).2 ≤ 57)) ∧ r = some (0, 0)))) := by
  intro E n res h
  have en := TMt_he hT
  have e2 := hT.2.2.1
  by_cases q : nxF sz w a = 48
  · have h := call_runP 2 vm_X12_readCount h
    have h := xw_top (hd := []) 7 xD6_ok xc_X12_readCount xa_X12_readCount (t := 0) rfl h
    simp (maxDischargeDepth := 12) -implicitDefEqProofs [vb_X12_readCount_0, vb_X12_readCount_17, vb_X12_readCount_28, vb_X12_readCount_32, vb_X12_readCount_33, xI_0, xI_1, xI_7, xI_8, xI_36, xI_37, xI_38, xI_43, xI_49, xI_61, xI_62, xw_X12_readCount_0, xw_X12_readCount_17, xw_X12_readCount_28, xw_X12_readCount_32, xw_X12_readCount_33, zw_lit, xB_c, xB_s, xB_n, i1_c, j2_c, k1_c, jJ_e, xlg, xls, xla, xpd, ppush, zw_m1, zw_m2, zw_m3, gf_12_5, tg_12_5, gv_590_5, xD1, xD2, xD3, xD4, xD5, xD6, xb1_0, en, e2, q] at h
    obtain ⟨r, H2, ⟨rfl, rfl⟩, h⟩ := xc_use h (sp_X12_fails a H)
    simp (maxDischargeDepth := 12) -implicitDefEqProofs [vb_X12_readCount_0, vb_X12_readCount_17, vb_X12_readCount_28, vb_X12_readCount_32, vb_X12_readCount_33, xI_0, xI_1, xI_7, xI_8, xI_36, xI_37, xI_38, xI_43, xI_49, xI_61, xI_62, xw_X12_readCount_0, xw_X12_readCount_17, xw_X12_readCount_28, xw_X12_readCount_32, xw_X12_readCount_33, zw_lit, xB_c, xB_s, xB_n, i1_c, j2_c, k1_c, jJ_e, xlg, xls, xla, xpd, ppush, zw_m1, zw_m2, zw_m3, gf_12_5, tg_12_5, gv_590_5, xD1, xD2, xD3, xD4, xD5, xD6, xb1_0] at h
    exact ⟨_, _, h, PMt_up (Or.inr (Or.inl rfl)), Or.inr ⟨fun p => by omega, rfl⟩⟩
  · have h := call_runP 2 vm_X12_readCount h
    have h := xw_top (hd := []) 7 xD6_ok xc_X12_readCount xa_X12_readCount (t := 0) rfl h
    simp (maxDischargeDepth := 12) -implicitDefEqProofs [vb_X12_readCount_0, vb_X12_readCount_17, vb_X12_readCount_28, vb_X12_readCount_32, vb_X12_readCount_33, xI_0, xI_1, xI_7, xI_8, xI_36, xI_37, xI_38, xI_43, xI_49, xI_61, xI_62, xw_X12_readCount_0, xw_X12_readCount_17, xw_X12_readCount_28, xw_X12_readCount_32, xw_X12_readCount_33, zw_lit, xB_c, xB_s, xB_n, i1_c, j2_c, k1_c, jJ_e, xlg, xls, xla, xpd, ppush, zw_m1, zw_m2, zw_m3, gf_12_5, tg_12_5, gv_590_5, xD1, xD2, xD3, xD4, xD5, xD6, xb1_0, en, e2, q] at h
    obtain ⟨r, H2, ⟨p1, p2⟩, h⟩ := xc_use h (sp_X12_readDigits k m sz a w H hm hk hT hw)
    rcases p2 with ⟨c, rfl, t, s, _⟩ | ⟨c, rfl⟩
    · simp (maxDischargeDepth := 12) -implicitDefEqProofs [vb_X12_readCount_0, vb_X12_readCount_17, vb_X12_readCount_28, vb_X12_readCount_32, vb_X12_readCount_33, xI_0, xI_1, xI_7, xI_8, xI_36, xI_37, xI_38, xI_43, xI_49, xI_61, xI_62, xw_X12_readCount_0, xw_X12_readCount_17, xw_X12_readCount_28, xw_X12_readCount_32, xw_X12_readCount_33, zw_lit, xB_c, xB_s, xB_n, i1_c, j2_c, k1_c, jJ_e, xlg, xls, xla, xpd, ppush, zw_m1, zw_m2, zw_m3, gf_12_5, tg_12_5, gv_590_5, xD1, xD2, xD3, xD4, xD5, xD6, xb1_0] at h
      exact ⟨_, H2, h, p1, Or.inl ⟨⟨by omega, c.2⟩, rfl, t, s⟩⟩
    · simp (maxDischargeDepth := 12) -implicitDefEqProofs [vb_X12_readCount_0, vb_X12_readCount_17, vb_X12_readCount_28, vb_X12_readCount_32, vb_X12_readCount_33, xI_0, xI_1, xI_7, xI_8, xI_36, xI_37, xI_38, xI_43, xI_49, xI_61, xI_62, xw_X12_readCount_0, xw_X12_readCount_17, xw_X12_readCount_28, xw_X12_readCount_32, xw_X12_readCount_33, zw_lit, xB_c, xB_s, xB_n, i1_c, j2_c, k1_c, jJ_e, xlg, xls, xla, xpd, ppush, zw_m1, zw_m2, zw_m3, gf_12_5, tg_12_5, gv_590_5, xD1, xD2, xD3, xD4, xD5, xD6, xb1_0] at h
      have e4 : H2 590 5 = H2 590 5 := rfl
      obtain ⟨r, H3, ⟨rfl, rfl⟩, h⟩ := xc_use h (sp_X12_fails (H2 590 5) H2)
      simp (maxDischargeDepth := 12) -implicitDefEqProofs [vb_X12_readCount_0, vb_X12_readCount_17, vb_X12_readCount_28, vb_X12_readCount_32, vb_X12_readCount_33, xI_0, xI_1, xI_7, xI_8, xI_36, xI_37, xI_38, xI_43, xI_49, xI_61, xI_62, xw_X12_readCount_0, xw_X12_readCount_17, xw_X12_readCount_28, xw_X12_readCount_32, xw_X12_readCount_33, zw_lit, xB_c, xB_s, xB_n, i1_c, j2_c, k1_c, jJ_e, xlg, xls, xla, xpd, ppush, zw_m1, zw_m2, zw_m3, gf_12_5, tg_12_5, gv_590_5, xD1, xD2, xD3, xD4, xD5, xD6, xb1_0] at h
      exact ⟨_, _, h, PMt_trans p1 (PMt_up (Or.inr (Or.inl rfl))), Or.inr ⟨fun p => c ⟨by omega, p.2⟩, rfl⟩⟩
