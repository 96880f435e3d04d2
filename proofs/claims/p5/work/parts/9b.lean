theorem gf_11_4 : gfOK 11 4 = true := by decide +kernel
theorem gf_11_6 : gfOK 11 6 = true := by decide +kernel
theorem gf_11_7 : gfOK 11 7 = true := by decide +kernel
theorem gf_11_8 : gfOK 11 8 = true := by decide +kernel
theorem gf_12_1 : gfOK 12 1 = true := by decide +kernel
theorem gf_12_2 : gfOK 12 2 = true := by decide +kernel
theorem pf_2_0 : pfOK 2 0 = true := by decide +kernel
theorem pf_2_1 : pfOK 2 1 = true := by decide +kernel
theorem pf_2_2 : pfOK 2 2 = true := by decide +kernel
theorem pf_2_3 : pfOK 2 3 = true := by decide +kernel
theorem pf_3_130 : pfOK 3 130 = true := by decide +kernel
theorem pf_11_7 : pfOK 11 7 = true := by decide +kernel
theorem pf_11_8 : pfOK 11 8 = true := by decide +kernel
theorem pf_12_2 : pfOK 12 2 = true := by decide +kernel
def xm_X12_deed : List xbT := [(0, vb_X12_deed_0, some 11), (11, vb_X12_deed_11, some 40), (40, vb_X12_deed_40, some 50), (50, vb_X12_deed_50, some 52), (52, vb_X12_deed_52, some 86), (86, vb_X12_deed_86, none)]
theorem xc_X12_deed : xOK kd_X12_deed xm_X12_deed := ⟨ve_X12_deed_0, ve_X12_deed_11, ve_X12_deed_40, ve_X12_deed_50, ve_X12_deed_52, ve_X12_deed_86, trivial⟩
theorem xa_X12_deed : xm_X12_deed.all (fun q => aOKb q.2.1 && !q.2.1.isEmpty) = true := by decide +kernel
theorem xw_X12_deed_0 {E : xE} {res : xR} {N : Nat} {hd : List Nat} {C : xCT} {k : Nat} {L : List Int} {st : List pv} {H : PH} : xW E res N kd_X12_deed xm_X12_deed hd C (k + 1) 0 L st H = xB (fun t L st H => if t ∈ hd then xJ E res N kd_X12_deed t L st H else xW E res N kd_X12_deed xm_X12_deed hd C k t L st H) (REPR E res) C (some 11) vb_X12_deed_0 0 L st H := Eq.trans rfl rfl
theorem xw_X12_deed_11 {E : xE} {res : xR} {N : Nat} {hd : List Nat} {C : xCT} {k : Nat} {L : List Int} {st : List pv} {H : PH} : xW E res N kd_X12_deed xm_X12_deed hd C (k + 1) 11 L st H = xB (fun t L st H => if t ∈ hd then xJ E res N kd_X12_deed t L st H else xW E res N kd_X12_deed xm_X12_deed hd C k t L st H) (REPR E res) C (some 40) vb_X12_deed_11 11 L st H := Eq.trans rfl rfl
theorem xw_X12_deed_40 {E : xE} {res : xR} {N : Nat} {hd : List Nat} {C : xCT} {k : Nat} {L : List Int} {st : List pv} {H : PH} : xW E res N kd_X12_deed xm_X12_deed hd C (k + 1) 40 L st H = xB (fun t L st H => if t ∈ hd then xJ E res N kd_X12_deed t L st H else xW E res N kd_X12_deed xm_X12_deed hd C k t L st H) (REPR E res) C (some 50) vb_X12_deed_40 40 L st H := Eq.trans rfl rfl
theorem xw_X12_deed_50 {E : xE} {res : xR} {N : Nat} {hd : List Nat} {C : xCT} {k : Nat} {L : List Int} {st : List pv} {H : PH} : xW E res N kd_X12_deed xm_X12_deed hd C (k + 1) 50 L st H = xB (fun t L st H => if t ∈ hd then xJ E res N kd_X12_deed t L st H else xW E res N kd_X12_deed xm_X12_deed hd C k t L st H) (REPR E res) C (some 52) vb_X12_deed_50 50 L st H := Eq.trans rfl rfl
theorem xw_X12_deed_52 {E : xE} {res : xR} {N : Nat} {hd : List Nat} {C : xCT} {k : Nat} {L : List Int} {st : List pv} {H : PH} : xW E res N kd_X12_deed xm_X12_deed hd C (k + 1) 52 L st H = xB (fun t L st H => if t ∈ hd then xJ E res N kd_X12_deed t L st H else xW E res N kd_X12_deed xm_X12_deed hd C k t L st H) (REPR E res) C (some 86) vb_X12_deed_52 52 L st H := Eq.trans rfl rfl
theorem xw_X12_deed_86 {E : xE} {res : xR} {N : Nat} {hd : List Nat} {C : xCT} {k : Nat} {L : List Int} {st : List pv} {H : PH} : xW E res N kd_X12_deed xm_X12_deed hd C (k + 1) 86 L st H = xB (fun t L st H => if t ∈ hd then xJ E res N kd_X12_deed t L st H else xW E res N kd_X12_deed xm_X12_deed hd C k t L st H) (REPR E res) C (none) vb_X12_deed_86 86 L st H := Eq.trans rfl rfl
def xm_X12_become : List xbT := [(0, vb_X12_become_0, none)]
theorem xc_X12_become : xOK kd_X12_become xm_X12_become := ⟨ve_X12_become_0, trivial⟩
theorem xa_X12_become : xm_X12_become.all (fun q => aOKb q.2.1 && !q.2.1.isEmpty) = true := by decide +kernel
theorem xw_X12_become_0 {E : xE} {res : xR} {N : Nat} {hd : List Nat} {C : xCT} {k : Nat} {L : List Int} {st : List pv} {H : PH} : xW E res N kd_X12_become xm_X12_become hd C (k + 1) 0 L st H = xB (fun t L st H => if t ∈ hd then xJ E res N kd_X12_become t L st H else xW E res N kd_X12_become xm_X12_become hd C k t L st H) (REPR E res) C (none) vb_X12_become_0 0 L st H := Eq.trans rfl rfl
def xm_X12_back : List xbT := [(0, vb_X12_back_0, some 9), (9, vb_X12_back_9, some 21), (21, vb_X12_back_21, some 55), (55, vb_X12_back_55, none)]
theorem xc_X12_back : xOK kd_X12_back xm_X12_back := ⟨ve_X12_back_0, ve_X12_back_9, ve_X12_back_21, ve_X12_back_55, trivial⟩
theorem xa_X12_back : xm_X12_back.all (fun q => aOKb q.2.1 && !q.2.1.isEmpty) = true := by decide +kernel
theorem xw_X12_back_0 {E : xE} {res : xR} {N : Nat} {hd : List Nat} {C : xCT} {k : Nat} {L : List Int} {st : List pv} {H : PH} : xW E res N kd_X12_back xm_X12_back hd C (k + 1) 0 L st H = xB (fun t L st H => if t ∈ hd then xJ E res N kd_X12_back t L st H else xW E res N kd_X12_back xm_X12_back hd C k t L st H) (REPR E res) C (some 9) vb_X12_back_0 0 L st H := Eq.trans rfl rfl
theorem xw_X12_back_9 {E : xE} {res : xR} {N : Nat} {hd : List Nat} {C : xCT} {k : Nat} {L : List Int} {st : List pv} {H : PH} : xW E res N kd_X12_back xm_X12_back hd C (k + 1) 9 L st H = xB (fun t L st H => if t ∈ hd then xJ E res N kd_X12_back t L st H else xW E res N kd_X12_back xm_X12_back hd C k t L st H) (REPR E res) C (some 21) vb_X12_back_9 9 L st H := Eq.trans rfl rfl
theorem xw_X12_back_21 {E : xE} {res : xR} {N : Nat} {hd : List Nat} {C : xCT} {k : Nat} {L : List Int} {st : List pv} {H : PH} : xW E res N kd_X12_back xm_X12_back hd C (k + 1) 21 L st H = xB (fun t L st H => if t ∈ hd then xJ E res N kd_X12_back t L st H else xW E res N kd_X12_back xm_X12_back hd C k t L st H) (REPR E res) C (some 55) vb_X12_back_21 21 L st H := Eq.trans rfl rfl
theorem xw_X12_back_55 {E : xE} {res : xR} {N : Nat} {hd : List Nat} {C : xCT} {k : Nat} {L : List Int} {st : List pv} {H : PH} : xW E res N kd_X12_back xm_X12_back hd C (k + 1) 55 L st H = xB (fun t L st H => if t ∈ hd then xJ E res N kd_X12_back t L st H else xW E res N kd_X12_back xm_X12_back hd C k t L st H) (REPR E res) C (none) vb_X12_back_55 55 L st H := Eq.trans rfl rfl
def xm_X11_forgetAnswers : List xbT := [(0, vb_X11_forgetAnswers_0, none)]
theorem xc_X11_forgetAnswers : xOK kd_X11_forgetAnswers xm_X11_forgetAnswers := ⟨ve_X11_forgetAnswers_0, trivial⟩
theorem xa_X11_forgetAnswers : xm_X11_forgetAnswers.all (fun q => aOKb q.2.1 && !q.2.1.isEmpty) = true := by decide +kernel
theorem xw_X11_forgetAnswers_0 {E : xE} {res : xR} {N : Nat} {hd : List Nat} {C : xCT} {k : Nat} {L : List Int} {st : List pv} {H : PH} : xW E res N kd_X11_forgetAnswers xm_X11_forgetAnswers hd C (k + 1) 0 L st H = xB (fun t L st H => if t ∈ hd then xJ E res N kd_X11_forgetAnswers t L st H else xW E res N kd_X11_forgetAnswers xm_X11_forgetAnswers hd C k t L st H) (REPR E res) C (none) vb_X11_forgetAnswers_0 0 L st H := Eq.trans rfl rfl
def xm_X11_noteDeed : List xbT := [(0, vb_X11_noteDeed_0, some 14), (14, vb_X11_noteDeed_14, some 20), (20, vb_X11_noteDeed_20, none)]
theorem xc_X11_noteDeed : xOK kd_X11_noteDeed xm_X11_noteDeed := ⟨ve_X11_noteDeed_0, ve_X11_noteDeed_14, ve_X11_noteDeed_20, trivial⟩
theorem xa_X11_noteDeed : xm_X11_noteDeed.all (fun q => aOKb q.2.1 && !q.2.1.isEmpty) = true := by decide +kernel
theorem xw_X11_noteDeed_0 {E : xE} {res : xR} {N : Nat} {hd : List Nat} {C : xCT} {k : Nat} {L : List Int} {st : List pv} {H : PH} : xW E res N kd_X11_noteDeed xm_X11_noteDeed hd C (k + 1) 0 L st H = xB (fun t L st H => if t ∈ hd then xJ E res N kd_X11_noteDeed t L st H else xW E res N kd_X11_noteDeed xm_X11_noteDeed hd C k t L st H) (REPR E res) C (some 14) vb_X11_noteDeed_0 0 L st H := Eq.trans rfl rfl
theorem xw_X11_noteDeed_14 {E : xE} {res : xR} {N : Nat} {hd : List Nat} {C : xCT} {k : Nat} {L : List Int} {st : List pv} {H : PH} : xW E res N kd_X11_noteDeed xm_X11_noteDeed hd C (k + 1) 14 L st H = xB (fun t L st H => if t ∈ hd then xJ E res N kd_X11_noteDeed t L st H else xW E res N kd_X11_noteDeed xm_X11_noteDeed hd C k t L st H) (REPR E res) C (some 20) vb_X11_noteDeed_14 14 L st H := Eq.trans rfl rfl
theorem xw_X11_noteDeed_20 {E : xE} {res : xR} {N : Nat} {hd : List Nat} {C : xCT} {k : Nat} {L : List Int} {st : List pv} {H : PH} : xW E res N kd_X11_noteDeed xm_X11_noteDeed hd C (k + 1) 20 L st H = xB (fun t L st H => if t ∈ hd then xJ E res N kd_X11_noteDeed t L st H else xW E res N kd_X11_noteDeed xm_X11_noteDeed hd C k t L st H) (REPR E res) C (none) vb_X11_noteDeed_20 20 L st H := Eq.trans rfl rfl
theorem xv_X11_noteDeed : zget zM 154 = some ((154, 11, false, cX11_noteDeed, 6, (some (.object "BaleTallies$Deed"))), kd_X11_noteDeed) := rfl
/-! deeds noted, on either side -/
/-- the model's kept rows: R tells them, n of them -/
def KPr (R : Int → Int → Int) (n : Int) (H : PH) : Prop := ∀ j k, 0 ≤ j → j < n → 0 ≤ k → k < 1124 → H 592 (1124 * j + k) = R j k
/-- what the model's noting leaves as it is -/
def DF (H H' : PH) : Prop := (∀ c, ¬ c = 590 → ¬ c = 592 → H' c = H c) ∧ ∀ i, ¬ i = 2 → H' 590 i = H 590 i
theorem lp_dd1 {E : xE} {res : xR} {H0 : PH} : ∀ (n : Nat) (k : Int) (H : PH), 0 ≤ k → k ≤ 21356 → (∀ j, 0 ≤ j → j < k → H 592 j = H0 592 (j + 1124)) → (∀ j, k ≤ j → H 592 j = H0 592 j) → (∀ c, ¬ c = 592 → H c = H0 c) → RUN E res n kd_X12_deed (zget kd_X12_deed 11) 11 [590, k] [] H → ∃ H' : PH, (∀ j, 0 ≤ j → j < 21356 → H' 592 j = H0 592 (j + 1124)) ∧ (∀ c, ¬ c = 592 → H' c = H0 c) ∧ xJ E res n kd_X12_deed 52 [590, 0] [] (pup H' 590 2 (zw (H0 590 2 - 1))) := by
  intro n
  induction n using Nat.strongRecOn with
  | _ n ih =>
    intro k H hk0 hk1 hR hS hF h
    have z1 : zw (k + 1) = k + 1 := zw_lit (by omega) (by omega)
    have z2 : zw (k + 1124) = k + 1124 := zw_lit (by omega) (by omega)
    have e590 : H 590 = H0 590 := hF 590 (by decide)
    have h := xw_top (hd := [11, 52]) 8 xD6_ok xc_X12_deed xa_X12_deed (t := 11) rfl h
    simp (maxDischargeDepth := 12) -implicitDefEqProofs [vb_X12_deed_0, vb_X12_deed_11, vb_X12_deed_40, vb_X12_deed_50, vb_X12_deed_52, vb_X12_deed_86, xI_0, xI_1, xI_3, xI_6, xI_7, xI_8, xI_9, xI_14, xI_15, xI_16, xI_33, xI_36, xI_44, xI_46, xI_49, xI_50, xI_51, xI_52, xI_65, xw_X12_deed_0, xw_X12_deed_11, xw_X12_deed_40, xw_X12_deed_50, xw_X12_deed_52, xw_X12_deed_86, zw_lit, xB_c, xB_s, xB_n, i1_c, j2_c, k1_c, jJ_e, xlg, xls, xla, xpd, ppush, zw_m1, zw_m2, zw_m3, gf_12_0, gf_12_1, gf_12_2, pf_12_2, tg_12_0, tg_12_1, tg_12_2, gv_590_0, gv_590_1, gv_590_2, xD1, xD2, xD3, xD4, xD5, xD6, xb1_0, z1, z2, e590] at h
    rcases h with ⟨c, h⟩ | ⟨c, m, hm, h⟩
    · exact ⟨H, fun j j0 j1 => hR j j0 (by omega), hF, h⟩
    · obtain ⟨H', g1, g2, g3⟩ := ih m hm (k + 1) _ (by omega) (by omega) (fun j j0 j1 => by
        rw [xp_at]
        by_cases e : j = k
        · rw [if_pos e, e]
          exact hS _ (by omega)
        · rw [if_neg e]
          exact hR j j0 (by omega)) (fun j j1 => by
        rw [xp_at, if_neg (by omega)]
        exact hS j (by omega)) (fun c hc => by rw [xp_ne hc]; exact hF c hc) h
      exact ⟨H', g1, g2, xJ_up g3 (by omega)⟩
theorem lp_dd2 {E : xE} {res : xR} {H0 : PH} {d : Int} (hd : 0 ≤ d ∧ d ≤ 19) : ∀ (n : Nat) (k : Int) (H : PH), 0 ≤ k → k ≤ 1124 → H0 590 2 = d → (∀ j, 0 ≤ j → j < k → H 592 (1124 * d + j) = H0 591 j) → (∀ j, j < 1124 * d → H 592 j = H0 592 j) → (∀ c, ¬ c = 592 → H c = H0 c) → RUN E res n kd_X12_deed (zget kd_X12_deed 52) 52 [590, k] [] H → ∃ H' : PH, (∀ j, 0 ≤ j → j < 1124 → H' 592 (1124 * d + j) = H0 591 j) ∧ (∀ j, j < 1124 * d → H' 592 j = H0 592 j) ∧ (∀ c, ¬ c = 592 → ¬ c = 590 → H' c = H0 c) ∧ (∀ i, ¬ i = 2 → H' 590 i = H0 590 i) ∧ H' 590 2 = d + 1 ∧ REPR E res none H' := by
  intro n
  induction n using Nat.strongRecOn with
  | _ n ih =>
    intro k H hk0 hk1 h2 hR hS hF h
    have z1 : zw (k + 1) = k + 1 := zw_lit (by omega) (by omega)
    have z2 : zw (1124 * d) = 1124 * d := zw_lit (by omega) (by omega)
    have z3 : zw (1124 * d + k) = 1124 * d + k := zw_lit (by omega) (by omega)
    have z4 : zw (d + 1) = d + 1 := zw_lit (by omega) (by omega)
    have e2 : H 590 2 = d := by rw [hF 590 (by decide)]; exact h2
    have h := xw_top (hd := [11, 52]) 8 xD6_ok xc_X12_deed xa_X12_deed (t := 52) rfl h
    simp (maxDischargeDepth := 12) -implicitDefEqProofs [vb_X12_deed_0, vb_X12_deed_11, vb_X12_deed_40, vb_X12_deed_50, vb_X12_deed_52, vb_X12_deed_86, xI_0, xI_1, xI_3, xI_6, xI_7, xI_8, xI_9, xI_14, xI_15, xI_16, xI_33, xI_36, xI_44, xI_46, xI_49, xI_50, xI_51, xI_52, xI_65, xw_X12_deed_0, xw_X12_deed_11, xw_X12_deed_40, xw_X12_deed_50, xw_X12_deed_52, xw_X12_deed_86, zw_lit, xB_c, xB_s, xB_n, i1_c, j2_c, k1_c, jJ_e, xlg, xls, xla, xpd, ppush, zw_m1, zw_m2, zw_m3, gf_12_0, gf_12_1, gf_12_2, pf_12_2, tg_12_0, tg_12_1, tg_12_2, gv_590_0, gv_590_1, gv_590_2, xD1, xD2, xD3, xD4, xD5, xD6, xb1_0, z1, z2, z3, z4, e2] at h
    rcases h with ⟨c, h⟩ | ⟨c, m, hm, h⟩
    · refine ⟨_, fun j j0 j1 => ?_, fun j j1 => ?_, fun c c1 c2 => ?_, fun i i2 => ?_, ?_, h⟩
      · rw [xp_ne (by decide)]
        exact hR j j0 (by omega)
      · rw [xp_ne (by decide)]
        exact hS j j1
      · rw [xp_ne c2]
        exact hF c c1
      · rw [xp_at, if_neg i2, hF 590 (by decide)]
      · rw [xp_at, if_pos rfl]
    · exact ih m hm (k + 1) _ (by omega) (by omega) h2 (fun j j0 j1 => by
        rw [xp_at]
        by_cases e : j = k
        · rw [if_pos (by omega), e, hF 591 (by decide)]
        · rw [if_neg (by omega)]
          exact hR j j0 (by omega)) (fun j j1 => by
        rw [xp_at, if_neg (by omega)]
        exact hS j j1) (fun c hc => by rw [xp_ne hc]; exact hF c hc) h
/-- a row more is kept; the first of twenty goes -/
theorem sp_X12_deed (R : Int → Int → Int) (n : Int) (H : PH) (hn : 0 ≤ n ∧ n ≤ 20) (h2 : H 590 2 = n) (hK : KPr R n H) : SPEC 158 [(2, 590)] H (fun r H' => r = none ∧ DF H H' ∧ H' 590 2 = min 20 (n + 1) ∧ KPr (fun j => if j = min 20 (n + 1) - 1 then H 591 else if n = 20 then R (j + 1) else R j) (min 20 (n + 1)) H') := by
  intro E N res h
  by_cases q : n = 20
  · have e2 : H 590 2 = 20 := by omega
    have h := call_runP 2 vm_X12_deed h
    have h := xw_top (hd := [11, 52]) 8 xD6_ok xc_X12_deed xa_X12_deed (t := 0) rfl h
    simp (maxDischargeDepth := 12) -implicitDefEqProofs [vb_X12_deed_0, vb_X12_deed_11, vb_X12_deed_40, vb_X12_deed_50, vb_X12_deed_52, vb_X12_deed_86, xI_0, xI_1, xI_3, xI_6, xI_7, xI_8, xI_9, xI_14, xI_15, xI_16, xI_33, xI_36, xI_44, xI_46, xI_49, xI_50, xI_51, xI_52, xI_65, xw_X12_deed_0, xw_X12_deed_11, xw_X12_deed_40, xw_X12_deed_50, xw_X12_deed_52, xw_X12_deed_86, zw_lit, xB_c, xB_s, xB_n, i1_c, j2_c, k1_c, jJ_e, xlg, xls, xla, xpd, ppush, zw_m1, zw_m2, zw_m3, gf_12_0, gf_12_1, gf_12_2, pf_12_2, tg_12_0, tg_12_1, tg_12_2, gv_590_0, gv_590_1, gv_590_2, xD1, xD2, xD3, xD4, xD5, xD6, xb1_0, e2] at h
    obtain ⟨m, hm, h⟩ := h
    obtain ⟨H1, g1, g2, m1, hm1, h⟩ := lp_dd1 m 0 H (by omega) (by omega) (fun j j0 j1 => by omega) (fun _ _ => rfl) (fun _ _ => rfl) h
    have z : zw (H 590 2 - 1) = 19 := by rw [e2]; decide
    rw [z] at h
    obtain ⟨H2, k1, k2, k3, k4, k5, k6⟩ := lp_dd2 (d := 19) (by decide) m1 0 _ (by omega) (by omega) (by rw [xp_at, if_pos rfl]) (fun j j0 j1 => by omega) (fun _ _ => rfl) (fun _ _ => rfl) h
    refine ⟨none, H2, k6, rfl, ⟨fun c c0 c1 => ?_, fun i i2 => ?_⟩, by omega, fun j k j0 j1 i0 i1 => ?_⟩
    · rw [k3 c c1 c0, xp_ne c0]
      exact g2 c c1
    · rw [k4 i i2, xp_at, if_neg i2, g2 590 (by decide)]
    · show H2 592 (1124 * j + k) = (if j = min 20 (n + 1) - 1 then H 591 else if n = 20 then R (j + 1) else R j) k
      by_cases e : j = 19
      · rw [if_pos (by omega), e, k1 k i0 i1, xp_ne (by decide), g2 591 (by decide)]
      · rw [if_neg (by omega), if_pos q, k2 _ (by omega), xp_ne (by decide), g1 _ (by omega) (by omega), ← hK (j + 1) k (by omega) (by omega) i0 i1]
        exact congrArg _ (by omega)
  · have e2 : ¬ H 590 2 = 20 := by omega
    have h := call_runP 2 vm_X12_deed h
    have h := xw_top (hd := [11, 52]) 8 xD6_ok xc_X12_deed xa_X12_deed (t := 0) rfl h
    simp (maxDischargeDepth := 12) -implicitDefEqProofs [vb_X12_deed_0, vb_X12_deed_11, vb_X12_deed_40, vb_X12_deed_50, vb_X12_deed_52, vb_X12_deed_86, xI_0, xI_1, xI_3, xI_6, xI_7, xI_8, xI_9, xI_14, xI_15, xI_16, xI_33, xI_36, xI_44, xI_46, xI_49, xI_50, xI_51, xI_52, xI_65, xw_X12_deed_0, xw_X12_deed_11, xw_X12_deed_40, xw_X12_deed_50, xw_X12_deed_52, xw_X12_deed_86, zw_lit, xB_c, xB_s, xB_n, i1_c, j2_c, k1_c, jJ_e, xlg, xls, xla, xpd, ppush, zw_m1, zw_m2, zw_m3, gf_12_0, gf_12_1, gf_12_2, pf_12_2, tg_12_0, tg_12_1, tg_12_2, gv_590_0, gv_590_1, gv_590_2, xD1, xD2, xD3, xD4, xD5, xD6, xb1_0, e2] at h
    obtain ⟨m, hm, h⟩ := h
    obtain ⟨H2, k1, k2, k3, k4, k5, k6⟩ := lp_dd2 (d := n) (by omega) m 0 H (by omega) (by omega) h2 (fun j j0 j1 => by omega) (fun _ _ => rfl) (fun _ _ => rfl) h
    refine ⟨none, H2, k6, rfl, ⟨fun c c0 c1 => k3 c c1 c0, k4⟩, by omega, fun j k j0 j1 i0 i1 => ?_⟩
    show H2 592 (1124 * j + k) = (if j = min 20 (n + 1) - 1 then H 591 else if n = 20 then R (j + 1) else R j) k
    by_cases e : j = n
    · rw [if_pos (by omega), e, k1 k i0 i1]
    · rw [if_neg (by omega), if_neg q, k2 _ (by omega), hK j k j0 (by omega) i0 i1]
theorem sp_X12_become (x v : Int) (R : Int → Int → Int) (n : Int) (H : PH) (hx : 0 ≤ x ∧ x < 1124) (hn : 0 ≤ n ∧ n ≤ 20) (h2 : H 590 2 = n) (hK : KPr R n H) : SPEC 228 [(2, 590), (0, x), (0, v)] H (fun r H' => r = some (0, H 591 x) ∧ (∀ c, ¬ c = 590 → ¬ c = 591 → ¬ c = 592 → H' c = H c) ∧ (∀ i, ¬ i = 2 → H' 590 i = H 590 i) ∧ H' 591 = xup (H 591) x v ∧ H' 590 2 = min 20 (n + 1) ∧ KPr (fun j => if j = min 20 (n + 1) - 1 then H 591 else if n = 20 then R (j + 1) else R j) (min 20 (n + 1)) H') := by
  intro E N res h
  have h := call_runP 4 vm_X12_become h
  have h := xw_top (hd := []) 3 xD6_ok xc_X12_become xa_X12_become (t := 0) rfl h
  simp (maxDischargeDepth := 12) -implicitDefEqProofs [vb_X12_become_0, xI_0, xI_1, xI_3, xI_49, xI_51, xI_52, xI_61, xI_62, xw_X12_become_0, zw_lit, xB_c, xB_s, xB_n, i1_c, j2_c, k1_c, jJ_e, xlg, xls, xla, xpd, ppush, zw_m1, zw_m2, zw_m3, gf_12_0, tg_12_0, gv_590_0, xD1, xD2, xD3, xD4, xD5, xD6, xb1_0] at h
  obtain ⟨r, H1, ⟨rfl, d1, d2, d3⟩, h⟩ := xc_use h (sp_X12_deed R n H hn h2 hK)
  have e1 : H1 591 = H 591 := d1.1 591 (by decide) (by decide)
  refine ⟨_, _, h, rfl, fun c a b e => ?_, fun i i2 => ?_, ?_, ?_, fun j k j0 j1 i0 i1 => ?_⟩
  · rw [xp_ne b]
    exact d1.1 c a e
  · rw [xp_ne (by decide)]
    exact d1.2 i i2
  · funext j
    rw [xp_at, e1]
    rfl
  · rw [xp_ne (by decide)]
    exact d2
  · rw [xp_ne (by decide)]
    exact d3 j k j0 j1 i0 i1
theorem sp_X11_forgetAnswers (H : PH) : SPEC 155 [(2, 0)] H (fun r H' => r = none ∧ H' = pup (pup (pup H 215 1 0) 221 2 0) 372 2 0) := by
  intro E n res h
  have h := call_runP 1 vm_X11_forgetAnswers h
  have h := xw_top (hd := []) 3 xD6_ok xc_X11_forgetAnswers xa_X11_forgetAnswers (t := 0) rfl h
  simp (maxDischargeDepth := 12) -implicitDefEqProofs [vb_X11_forgetAnswers_0, xI_0, xI_7, xI_49, xI_50, xI_65, xw_X11_forgetAnswers_0, zw_lit, xB_c, xB_s, xB_n, i1_c, j2_c, k1_c, jJ_e, xlg, xls, xla, xpd, ppush, zw_m1, zw_m2, zw_m3, gf_11_2, gf_11_3, gf_11_4, pf_3_130, pf_6_130, pf_9_129, tg_11_2, tg_11_3, tg_11_4, tg_3_2, tg_6_2, tg_9_1, gv_0_2, gv_0_3, gv_0_4, xD1, xD2, xD3, xD4, xD5, xD6, xb1_0] at h
  exact ⟨_, _, h, rfl, rfl⟩
theorem gv468_all : ∀ l : Nat, l < 20 → zrt 468 l = some (469 + 6 * (l : Int)) := by decide +kernel
theorem gv468 {H : PH} {l : Int} (h0 : 0 ≤ l) (h1 : l < 20) : gv H 468 l = 469 + 6 * l := by
  obtain ⟨n, rfl⟩ := Int.eq_ofNat_of_zero_le h0
  unfold gv
  have e : zrt (468 : Int).toNat ((n : Int)).toNat = some (469 + 6 * (n : Int)) := by
    rw [Int.toNat_natCast]
    exact gv468_all n (by omega)
  rw [e]
/-- where the next deed is noted -/
def dnx (l : Int) : Int := if l = 19 then 0 else l + 1
set_option maxRecDepth 100000 in
theorem sp_X11_noteDeed (k a b d : Int) (H : PH) (h7 : 0 ≤ H 0 7 ∧ H 0 7 ≤ 20) (h8 : 0 ≤ H 0 8 ∧ H 0 8 ≤ 19) : SPEC 154 [(2, 0), (0, k), (0, a), (0, b), (0, d)] H (fun r H' => r = some (2, 469 + 6 * dnx (H 0 8)) ∧ H' = pup (pup (pup (pup (pup (pup (pup (pup (pup H 0 8 (dnx (H 0 8))) 0 7 (min 20 (H 0 7 + 1))) (469 + 6 * dnx (H 0 8)) 0 k) (469 + 6 * dnx (H 0 8)) 1 a) (469 + 6 * dnx (H 0 8)) 2 b) (469 + 6 * dnx (H 0 8)) 3 d) 215 1 0) 221 2 0) 372 2 0) := by
  intro E n res h
  have z7 : zw (H 0 7 + 1) = H 0 7 + 1 := zw_lit (by omega) (by omega)
  have z8 : zw (H 0 8 + 1) = H 0 8 + 1 := zw_lit (by omega) (by omega)
  have hl : 0 ≤ dnx (H 0 8) ∧ dnx (H 0 8) < 20 := by
    unfold dnx
    split <;> omega
  have gD : ∀ X : PH, gv X 468 (dnx (H 0 8)) = 469 + 6 * dnx (H 0 8) := fun X => gv468 hl.1 hl.2
  have zc : min (H 0 7 + 1) 20 = min 20 (H 0 7 + 1) := Int.min_comm _ _
  have h := call_runP 6 xv_X11_noteDeed h
  have h := xw_top (hd := []) 5 xD6_ok xc_X11_noteDeed xa_X11_noteDeed (t := 0) rfl h
  by_cases q : H 0 8 = 19
  · have e : dnx (H 0 8) = 0 := if_pos q
    have n0 : ¬ (469 : Int) = 0 := by decide
    rw [e] at gD ⊢
    simp (maxDischargeDepth := 12) -implicitDefEqProofs [vb_X11_noteDeed_0, vb_X11_noteDeed_14, vb_X11_noteDeed_20, xI_0, xI_1, xI_4, xI_7, xI_8, xI_14, xI_36, xI_44, xI_49, xI_50, xI_53, xI_56, xI_61, xI_63, xw_X11_noteDeed_0, xw_X11_noteDeed_14, xw_X11_noteDeed_20, zw_lit, xB_c, xB_s, xB_n, i1_c, j2_c, k1_c, jJ_e, xlg, xls, xla, xpd, ppush, zw_m1, zw_m2, zw_m3, gf_11_6, gf_11_7, gf_11_8, pf_2_0, pf_2_1, pf_2_2, pf_2_3, pf_11_7, pf_11_8, tg_11_6, tg_11_7, tg_11_8, tg_2_0, tg_2_1, tg_2_2, tg_2_3, gv_0_6, gv_0_7, gv_0_8, xD1, xD2, xD3, xD4, xD5, xD6, xb1_0, q, z7, gD, mn_a, zc, xp_ne, xp_at] at h
    obtain ⟨r, H1, ⟨rfl, rfl⟩, h3⟩ := xc_use h (sp_X11_forgetAnswers _)
    exact ⟨_, _, h3, rfl, rfl⟩
  · have e : dnx (H 0 8) = H 0 8 + 1 := if_neg q
    rw [e] at gD ⊢
    simp (maxDischargeDepth := 12) -implicitDefEqProofs [vb_X11_noteDeed_0, vb_X11_noteDeed_14, vb_X11_noteDeed_20, xI_0, xI_1, xI_4, xI_7, xI_8, xI_14, xI_36, xI_44, xI_49, xI_50, xI_53, xI_56, xI_61, xI_63, xw_X11_noteDeed_0, xw_X11_noteDeed_14, xw_X11_noteDeed_20, zw_lit, xB_c, xB_s, xB_n, i1_c, j2_c, k1_c, jJ_e, xlg, xls, xla, xpd, ppush, zw_m1, zw_m2, zw_m3, gf_11_6, gf_11_7, gf_11_8, pf_2_0, pf_2_1, pf_2_2, pf_2_3, pf_11_7, pf_11_8, tg_11_6, tg_11_7, tg_11_8, tg_2_0, tg_2_1, tg_2_2, tg_2_3, gv_0_6, gv_0_7, gv_0_8, xD1, xD2, xD3, xD4, xD5, xD6, xb1_0, q, z7, z8, gD, mn_a, zc, xp_ne, xp_at] at h
    obtain ⟨r, H1, ⟨rfl, rfl⟩, h3⟩ := xc_use h (sp_X11_forgetAnswers _)
    exact ⟨_, _, h3, rfl, rfl⟩
