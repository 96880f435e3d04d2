def xm_X12_readText : List xbT := [(0, vb_X12_readText_0, some 10), (10, vb_X12_readText_10, some 43), (43, vb_X12_readText_43, some 60), (60, vb_X12_readText_60, some 77), (77, vb_X12_readText_77, some 85), (85, vb_X12_readText_85, some 92), (92, vb_X12_readText_92, some 95), (95, vb_X12_readText_95, none)]
theorem xc_X12_readText : xOK kd_X12_readText xm_X12_readText := ⟨ve_X12_readText_0, ve_X12_readText_10, ve_X12_readText_43, ve_X12_readText_60, ve_X12_readText_77, ve_X12_readText_85, ve_X12_readText_92, ve_X12_readText_95, trivial⟩
theorem xa_X12_readText : xm_X12_readText.all (fun q => aOKb q.2.1 && !q.2.1.isEmpty) = true := by decide +kernel
theorem xw_X12_readText_0 {E : xE} {res : xR} {N : Nat} {hd : List Nat} {C : xCT} {k : Nat} {L : List Int} {st : List pv} {H : PH} : xW E res N kd_X12_readText xm_X12_readText hd C (k + 1) 0 L st H = xB (fun t L st H => if t ∈ hd then xJ E res N kd_X12_readText t L st H else xW E res N kd_X12_readText xm_X12_readText hd C k t L st H) (REPR E res) C (some 10) vb_X12_readText_0 0 L st H := Eq.trans rfl rfl
theorem xw_X12_readText_10 {E : xE} {res : xR} {N : Nat} {hd : List Nat} {C : xCT} {k : Nat} {L : List Int} {st : List pv} {H : PH} : xW E res N kd_X12_readText xm_X12_readText hd C (k + 1) 10 L st H = xB (fun t L st H => if t ∈ hd then xJ E res N kd_X12_readText t L st H else xW E res N kd_X12_readText xm_X12_readText hd C k t L st H) (REPR E res) C (some 43) vb_X12_readText_10 10 L st H := Eq.trans rfl rfl
theorem xw_X12_readText_43 {E : xE} {res : xR} {N : Nat} {hd : List Nat} {C : xCT} {k : Nat} {L : List Int} {st : List pv} {H : PH} : xW E res N kd_X12_readText xm_X12_readText hd C (k + 1) 43 L st H = xB (fun t L st H => if t ∈ hd then xJ E res N kd_X12_readText t L st H else xW E res N kd_X12_readText xm_X12_readText hd C k t L st H) (REPR E res) C (some 60) vb_X12_readText_43 43 L st H := Eq.trans rfl rfl
theorem xw_X12_readText_60 {E : xE} {res : xR} {N : Nat} {hd : List Nat} {C : xCT} {k : Nat} {L : List Int} {st : List pv} {H : PH} : xW E res N kd_X12_readText xm_X12_readText hd C (k + 1) 60 L st H = xB (fun t L st H => if t ∈ hd then xJ E res N kd_X12_readText t L st H else xW E res N kd_X12_readText xm_X12_readText hd C k t L st H) (REPR E res) C (some 77) vb_X12_readText_60 60 L st H := Eq.trans rfl rfl
theorem xw_X12_readText_77 {E : xE} {res : xR} {N : Nat} {hd : List Nat} {C : xCT} {k : Nat} {L : List Int} {st : List pv} {H : PH} : xW E res N kd_X12_readText xm_X12_readText hd C (k + 1) 77 L st H = xB (fun t L st H => if t ∈ hd then xJ E res N kd_X12_readText t L st H else xW E res N kd_X12_readText xm_X12_readText hd C k t L st H) (REPR E res) C (some 85) vb_X12_readText_77 77 L st H := Eq.trans rfl rfl
theorem xw_X12_readText_85 {E : xE} {res : xR} {N : Nat} {hd : List Nat} {C : xCT} {k : Nat} {L : List Int} {st : List pv} {H : PH} : xW E res N kd_X12_readText xm_X12_readText hd C (k + 1) 85 L st H = xB (fun t L st H => if t ∈ hd then xJ E res N kd_X12_readText t L st H else xW E res N kd_X12_readText xm_X12_readText hd C k t L st H) (REPR E res) C (some 92) vb_X12_readText_85 85 L st H := Eq.trans rfl rfl
theorem xw_X12_readText_92 {E : xE} {res : xR} {N : Nat} {hd : List Nat} {C : xCT} {k : Nat} {L : List Int} {st : List pv} {H : PH} : xW E res N kd_X12_readText xm_X12_readText hd C (k + 1) 92 L st H = xB (fun t L st H => if t ∈ hd then xJ E res N kd_X12_readText t L st H else xW E res N kd_X12_readText xm_X12_readText hd C k t L st H) (REPR E res) C (some 95) vb_X12_readText_92 92 L st H := Eq.trans rfl rfl
theorem xw_X12_readText_95 {E : xE} {res : xR} {N : Nat} {hd : List Nat} {C : xCT} {k : Nat} {L : List Int} {st : List pv} {H : PH} : xW E res N kd_X12_readText xm_X12_readText hd C (k + 1) 95 L st H = xB (fun t L st H => if t ∈ hd then xJ E res N kd_X12_readText t L st H else xW E res N kd_X12_readText xm_X12_readText hd C k t L st H) (REPR E res) C (none) vb_X12_readText_95 95 L st H := Eq.trans rfl rfl
def xm_X12_countItems : List xbT := [(0, vb_X12_countItems_0, none)]
theorem xc_X12_countItems : xOK kd_X12_countItems xm_X12_countItems := ⟨ve_X12_countItems_0, trivial⟩
theorem xa_X12_countItems : xm_X12_countItems.all (fun q => aOKb q.2.1 && !q.2.1.isEmpty) = true := by decide +kernel
theorem xw_X12_countItems_0 {E : xE} {res : xR} {N : Nat} {hd : List Nat} {C : xCT} {k : Nat} {L : List Int} {st : List pv} {H : PH} : xW E res N kd_X12_countItems xm_X12_countItems hd C (k + 1) 0 L st H = xB (fun t L st H => if t ∈ hd then xJ E res N kd_X12_countItems t L st H else xW E res N kd_X12_countItems xm_X12_countItems hd C k t L st H) (REPR E res) C (none) vb_X12_countItems_0 0 L st H := Eq.trans rfl rfl
theorem lnR_eq {sz : Int} {w : Int → Int} {a : Int} {B B2 : Int → Int} {x : Int} (hb : 0 ≤ B 2 ∧ B 2 < 60) (hx : x = 404 + 12 * B 2) (hr : 1 ≤ l1F sz w a ∧ l1F sz w a ≤ 8) (hR : RMk sz w (a + 5) (x + 3) (l1F sz w a) (xup (xup B x (nxF sz w (a + 1) - 48)) (x + 1) (nxF sz w (a + 3) - 48)) B2) (hl : B2 (x + 3) = l1F sz w a) : xup (xup B2 (x + 2) (l3F sz w a).1) 2 (B 2 + 1) = lnR sz w a B := by
  have hS : ∀ i, 0 ≤ i → i < l1F sz w a → B2 (x + 4 + i) = nxF sz w (a + 5 + i) := fun i i0 i1 => by
    have := hR.1 i i0 i1
    rw [show x + 3 + 1 + i = x + 4 + i by omega] at this
    exact this
  funext j
  unfold xup lnR
  rw [← hx]
  by_cases e0 : j = 2
  · rw [if_pos e0, if_pos e0]
  · rw [if_neg e0, if_neg e0]
    by_cases e1 : j = x + 2
    · rw [if_pos e1, if_neg (by omega), if_neg (by omega), if_pos e1]
    · rw [if_neg e1]
      by_cases e2 : j = x + 3
      · rw [if_neg (by omega), if_neg (by omega), if_neg e1, if_pos e2, e2, hl]
      · by_cases e3 : x + 4 ≤ j ∧ j < x + 4 + l1F sz w a
        · rw [if_neg (by omega), if_neg (by omega), if_neg e1, if_neg e2, if_pos e3]
          have := hS (j - x - 4) (by omega) (by omega)
          rw [show x + 4 + (j - x - 4) = j by omega] at this
          rw [this]
          congr 1
          omega
        · have g := hR.2 j (by omega) e2
          rw [g]
          unfold xup
          by_cases e4 : j = x
          · rw [if_neg (by omega), if_pos e4, if_pos e4]
          · rw [if_neg e4, if_neg e4]
            by_cases e5 : j = x + 1
            · rw [if_pos e5, if_pos e5]
            · rw [if_neg e5, if_neg e5, if_neg e1, if_neg e2, if_neg e3]
set_option maxRecDepth 100000 in
theorem sp_X12_readLine (bg : Int) (sz a : Int) (w : Int → Int) (B : Int → Int) (H : PH) (hT : TMt sz w a H) (ha : a < sz) (hw : ∀ i, 0 ≤ i → i < sz → 0 ≤ w i ∧ w i ≤ 255) (hR : H 591 = B) (hB : MB B) : SPEC 179 [(2, 590), (0, bg)] H (fun r H' => PQ H H' ∧ ((lnK sz w a B ∧ r = some (0, 1) ∧ TMt sz w (lnE sz w a) H' ∧ H' 591 = lnR sz w a B) ∨ (¬ lnK sz w a B ∧ r = some (0, 0)))) := by
  intro E n res h
  have hB2 := hB.2.2.1
  have e2 := hT.2.2.1
  by_cases n60 : B 2 = 60
  · have h := call_runP 4 vm_X12_readLine h
    have h := xw_top (hd := []) 9 xD6_ok xc_X12_readLine xa_X12_readLine (t := 0) rfl h
    simp (maxDischargeDepth := 12) -implicitDefEqProofs [vb_X12_readLine_0, vb_X12_readLine_19, vb_X12_readLine_44, vb_X12_readLine_73, vb_X12_readLine_75, vb_X12_readLine_127, vb_X12_readLine_129, xI_0, xI_1, xI_3, xI_7, xI_8, xI_14, xI_33, xI_37, xI_38, xI_44, xI_49, xI_50, xI_51, xI_52, xI_60, xI_61, xI_62, xw_X12_readLine_0, xw_X12_readLine_19, xw_X12_readLine_44, xw_X12_readLine_73, xw_X12_readLine_75, xw_X12_readLine_127, xw_X12_readLine_129, zw_lit, xB_c, xB_s, xB_n, i1_c, j2_c, k1_c, jJ_e, xlg, xls, xla, xpd, ppush, zw_m1, zw_m2, zw_m3, gf_12_0, gf_12_5, gf_12_7, pf_12_5, tg_12_0, tg_12_5, tg_12_7, gv_590_0, gv_590_5, gv_590_7, xD1, xD2, xD3, xD4, xD5, xD6, xb1_0, hR, n60] at h
    obtain ⟨r, H2, ⟨rfl, rfl⟩, h⟩ := xc_use h (sp_X12_fails bg H)
    simp (maxDischargeDepth := 12) -implicitDefEqProofs [vb_X12_readLine_0, vb_X12_readLine_19, vb_X12_readLine_44, vb_X12_readLine_73, vb_X12_readLine_75, vb_X12_readLine_127, vb_X12_readLine_129, xI_0, xI_1, xI_3, xI_7, xI_8, xI_14, xI_33, xI_37, xI_38, xI_44, xI_49, xI_50, xI_51, xI_52, xI_60, xI_61, xI_62, xw_X12_readLine_0, xw_X12_readLine_19, xw_X12_readLine_44, xw_X12_readLine_73, xw_X12_readLine_75, xw_X12_readLine_127, xw_X12_readLine_129, zw_lit, xB_c, xB_s, xB_n, i1_c, j2_c, k1_c, jJ_e, xlg, xls, xla, xpd, ppush, zw_m1, zw_m2, zw_m3, gf_12_0, gf_12_5, gf_12_7, pf_12_5, tg_12_0, tg_12_5, tg_12_7, gv_590_0, gv_590_5, gv_590_7, xD1, xD2, xD3, xD4, xD5, xD6, xb1_0] at h
    exact ⟨_, _, h, PQ_up (Or.inr (Or.inl rfl)), Or.inr ⟨fun k => k.1 n60, rfl⟩⟩
  · obtain ⟨x, hx⟩ : ∃ x, x = 404 + 12 * B 2 := ⟨_, rfl⟩
    have z1 : zw (a + 1) = a + 1 := zw_lit (by have := hT.2.2; omega) (by have := hT.2.2; omega)
    have z3 : zw (12 * B 2) = 12 * B 2 := zw_lit (by omega) (by omega)
    have z4 : zw (404 + 12 * B 2) = x := by rw [zw_lit (by omega) (by omega), hx]
    have z6 : zw x = x := zw_lit (by omega) (by omega)
    have z7 : zw (x + 1) = x + 1 := zw_lit (by omega) (by omega)
    have z8 : zw (x + 2) = x + 2 := zw_lit (by omega) (by omega)
    have z9 : zw (x + 3) = x + 3 := zw_lit (by omega) (by omega)
    have z10 : zw (x + 4) = x + 4 := zw_lit (by omega) (by omega)
    have zb : zw (B 2 + 1) = B 2 + 1 := zw_lit (by omega) (by omega)
    have h := call_runP 4 vm_X12_readLine h
    have h := xw_top (hd := []) 9 xD6_ok xc_X12_readLine xa_X12_readLine (t := 0) rfl h
    simp (maxDischargeDepth := 12) -implicitDefEqProofs [vb_X12_readLine_0, vb_X12_readLine_19, vb_X12_readLine_44, vb_X12_readLine_73, vb_X12_readLine_75, vb_X12_readLine_127, vb_X12_readLine_129, xI_0, xI_1, xI_3, xI_7, xI_8, xI_14, xI_33, xI_37, xI_38, xI_44, xI_49, xI_50, xI_51, xI_52, xI_60, xI_61, xI_62, xw_X12_readLine_0, xw_X12_readLine_19, xw_X12_readLine_44, xw_X12_readLine_73, xw_X12_readLine_75, xw_X12_readLine_127, xw_X12_readLine_129, zw_lit, xB_c, xB_s, xB_n, i1_c, j2_c, k1_c, jJ_e, xlg, xls, xla, xpd, ppush, zw_m1, zw_m2, zw_m3, gf_12_0, gf_12_5, gf_12_7, pf_12_5, tg_12_0, tg_12_5, tg_12_7, gv_590_0, gv_590_5, gv_590_7, xD1, xD2, xD3, xD4, xD5, xD6, xb1_0, hR, n60, z1, z3, z4, e2, xp_at] at h
    obtain ⟨r, H1, ⟨p1, g1⟩, h⟩ := xc_use h (sp_X12_readOne 1 sz _ w _ (TMt_up hT ha) (by decide))
    have w1 : H1 591 = B := by rw [p1.1 591 (by decide), xp_ne (by decide)]; exact hR
    have p1 := PQ_trans (PQ_up (Or.inl rfl)) (PQ_M p1)
    rcases g1 with ⟨c1, rfl, t1, n1⟩ | ⟨c1, rfl⟩
    · simp (maxDischargeDepth := 12) -implicitDefEqProofs [vb_X12_readLine_0, vb_X12_readLine_19, vb_X12_readLine_44, vb_X12_readLine_73, vb_X12_readLine_75, vb_X12_readLine_127, vb_X12_readLine_129, xI_0, xI_1, xI_3, xI_7, xI_8, xI_14, xI_33, xI_37, xI_38, xI_44, xI_49, xI_50, xI_51, xI_52, xI_60, xI_61, xI_62, xw_X12_readLine_0, xw_X12_readLine_19, xw_X12_readLine_44, xw_X12_readLine_73, xw_X12_readLine_75, xw_X12_readLine_127, xw_X12_readLine_129, zw_lit, xB_c, xB_s, xB_n, i1_c, j2_c, k1_c, jJ_e, xlg, xls, xla, xpd, ppush, zw_m1, zw_m2, zw_m3, gf_12_0, gf_12_5, gf_12_7, pf_12_5, tg_12_0, tg_12_5, tg_12_7, gv_590_0, gv_590_5, gv_590_7, xD1, xD2, xD3, xD4, xD5, xD6, xb1_0, z6, n1, Int.add_zero] at h
      obtain ⟨r, H2, ⟨p2, s2, g2⟩, h⟩ := xc_use h (sp_X12_takes 64 sz _ w _ (TMt_row t1) (by decide))
      have w2 : H2 591 = xup B x (nxF sz w (a + 1) - 48) := by rw [p2.1 591 (by decide), pupR, w1]
      have p2 := PQ_trans (PQ_trans p1 PQ_row) (PQ_M p2)
      rw [show a + 1 + 1 = a + 2 by omega] at g2
      rcases g2 with ⟨c2, rfl, t2⟩ | ⟨c2, rfl⟩
      · simp (maxDischargeDepth := 12) -implicitDefEqProofs [vb_X12_readLine_0, vb_X12_readLine_19, vb_X12_readLine_44, vb_X12_readLine_73, vb_X12_readLine_75, vb_X12_readLine_127, vb_X12_readLine_129, xI_0, xI_1, xI_3, xI_7, xI_8, xI_14, xI_33, xI_37, xI_38, xI_44, xI_49, xI_50, xI_51, xI_52, xI_60, xI_61, xI_62, xw_X12_readLine_0, xw_X12_readLine_19, xw_X12_readLine_44, xw_X12_readLine_73, xw_X12_readLine_75, xw_X12_readLine_127, xw_X12_readLine_129, zw_lit, xB_c, xB_s, xB_n, i1_c, j2_c, k1_c, jJ_e, xlg, xls, xla, xpd, ppush, zw_m1, zw_m2, zw_m3, gf_12_0, gf_12_5, gf_12_7, pf_12_5, tg_12_0, tg_12_5, tg_12_7, gv_590_0, gv_590_5, gv_590_7, xD1, xD2, xD3, xD4, xD5, xD6, xb1_0] at h
        obtain ⟨r, H3, ⟨p3, g3⟩, h⟩ := xc_use h (sp_X12_readOne 4 sz _ w _ t2 (by decide))
        have w3 : H3 591 = xup B x (nxF sz w (a + 1) - 48) := (p3.1 591 (by decide)).trans w2
        have p3 := PQ_trans p2 (PQ_M p3)
        rw [show a + 2 + 1 = a + 3 by omega] at g3
        rcases g3 with ⟨c3, rfl, t3, n3⟩ | ⟨c3, rfl⟩
        · simp (maxDischargeDepth := 12) -implicitDefEqProofs [vb_X12_readLine_0, vb_X12_readLine_19, vb_X12_readLine_44, vb_X12_readLine_73, vb_X12_readLine_75, vb_X12_readLine_127, vb_X12_readLine_129, xI_0, xI_1, xI_3, xI_7, xI_8, xI_14, xI_33, xI_37, xI_38, xI_44, xI_49, xI_50, xI_51, xI_52, xI_60, xI_61, xI_62, xw_X12_readLine_0, xw_X12_readLine_19, xw_X12_readLine_44, xw_X12_readLine_73, xw_X12_readLine_75, xw_X12_readLine_127, xw_X12_readLine_129, zw_lit, xB_c, xB_s, xB_n, i1_c, j2_c, k1_c, jJ_e, xlg, xls, xla, xpd, ppush, zw_m1, zw_m2, zw_m3, gf_12_0, gf_12_5, gf_12_7, pf_12_5, tg_12_0, tg_12_5, tg_12_7, gv_590_0, gv_590_5, gv_590_7, xD1, xD2, xD3, xD4, xD5, xD6, xb1_0, z7, n3] at h
          obtain ⟨r, H4, ⟨p4, s4, g4⟩, h⟩ := xc_use h (sp_X12_takes 58 sz _ w _ (TMt_row t3) (by decide))
          have w4 : H4 591 = xup (xup B x (nxF sz w (a + 1) - 48)) (x + 1) (nxF sz w (a + 3) - 48) := by rw [p4.1 591 (by decide), pupR, w3]
          have p4 := PQ_trans (PQ_trans p3 PQ_row) (PQ_M p4)
          rw [show a + 3 + 1 = a + 4 by omega] at g4
          rcases g4 with ⟨c4, rfl, t4⟩ | ⟨c4, rfl⟩
          · simp (maxDischargeDepth := 12) -implicitDefEqProofs [vb_X12_readLine_0, vb_X12_readLine_19, vb_X12_readLine_44, vb_X12_readLine_73, vb_X12_readLine_75, vb_X12_readLine_127, vb_X12_readLine_129, xI_0, xI_1, xI_3, xI_7, xI_8, xI_14, xI_33, xI_37, xI_38, xI_44, xI_49, xI_50, xI_51, xI_52, xI_60, xI_61, xI_62, xw_X12_readLine_0, xw_X12_readLine_19, xw_X12_readLine_44, xw_X12_readLine_73, xw_X12_readLine_75, xw_X12_readLine_127, xw_X12_readLine_129, zw_lit, xB_c, xB_s, xB_n, i1_c, j2_c, k1_c, jJ_e, xlg, xls, xla, xpd, ppush, zw_m1, zw_m2, zw_m3, gf_12_0, gf_12_5, gf_12_7, pf_12_5, tg_12_0, tg_12_5, tg_12_7, gv_590_0, gv_590_5, gv_590_7, xD1, xD2, xD3, xD4, xD5, xD6, xb1_0, z9, z10] at h
            obtain ⟨r, H5, ⟨p5, g5⟩, h⟩ := xc_use h (sp_X12_readMark 1 (x + 3) (x + 4) sz _ w H4 (by omega) (by omega) t4)
            have p5 := PQ_trans p4 (PQ_N p5)
            rw [show a + 4 + 1 = a + 5 by omega] at g5
            rcases g5 with ⟨c5, rfl, t5, r5, l5⟩ | ⟨c5, rfl⟩
            · simp (maxDischargeDepth := 12) -implicitDefEqProofs [vb_X12_readLine_0, vb_X12_readLine_19, vb_X12_readLine_44, vb_X12_readLine_73, vb_X12_readLine_75, vb_X12_readLine_127, vb_X12_readLine_129, xI_0, xI_1, xI_3, xI_7, xI_8, xI_14, xI_33, xI_37, xI_38, xI_44, xI_49, xI_50, xI_51, xI_52, xI_60, xI_61, xI_62, xw_X12_readLine_0, xw_X12_readLine_19, xw_X12_readLine_44, xw_X12_readLine_73, xw_X12_readLine_75, xw_X12_readLine_127, xw_X12_readLine_129, zw_lit, xB_c, xB_s, xB_n, i1_c, j2_c, k1_c, jJ_e, xlg, xls, xla, xpd, ppush, zw_m1, zw_m2, zw_m3, gf_12_0, gf_12_5, gf_12_7, pf_12_5, tg_12_0, tg_12_5, tg_12_7, gv_590_0, gv_590_5, gv_590_7, xD1, xD2, xD3, xD4, xD5, xD6, xb1_0] at h
              obtain ⟨r, H6, ⟨p6, s6, g6⟩, h⟩ := xc_use h (sp_X12_takes 35 sz _ w H5 t5 (by decide))
              have w6 : H6 591 = H5 591 := p6.1 591 (by decide)
              have p6 := PQ_trans p5 (PQ_M p6)
              rcases g6 with ⟨c6, rfl, t6⟩ | ⟨c6, rfl⟩
              · simp (maxDischargeDepth := 12) -implicitDefEqProofs [vb_X12_readLine_0, vb_X12_readLine_19, vb_X12_readLine_44, vb_X12_readLine_73, vb_X12_readLine_75, vb_X12_readLine_127, vb_X12_readLine_129, xI_0, xI_1, xI_3, xI_7, xI_8, xI_14, xI_33, xI_37, xI_38, xI_44, xI_49, xI_50, xI_51, xI_52, xI_60, xI_61, xI_62, xw_X12_readLine_0, xw_X12_readLine_19, xw_X12_readLine_44, xw_X12_readLine_73, xw_X12_readLine_75, xw_X12_readLine_127, xw_X12_readLine_129, zw_lit, xB_c, xB_s, xB_n, i1_c, j2_c, k1_c, jJ_e, xlg, xls, xla, xpd, ppush, zw_m1, zw_m2, zw_m3, gf_12_0, gf_12_5, gf_12_7, pf_12_5, tg_12_0, tg_12_5, tg_12_7, gv_590_0, gv_590_5, gv_590_7, xD1, xD2, xD3, xD4, xD5, xD6, xb1_0] at h
                obtain ⟨r, H7, ⟨p7, g7⟩, h⟩ := xc_use h (sp_X12_readCount 3 3 sz _ w H6 rfl (by decide) t6 hw)
                have w7 : H7 591 = H5 591 := (p7.1 591 (by decide)).trans w6
                have p7 := PQ_trans p6 (PQ_M p7)
                rcases g7 with ⟨c7, rfl, t7, n7⟩ | ⟨c7, rfl⟩
                · simp (maxDischargeDepth := 12) -implicitDefEqProofs [vb_X12_readLine_0, vb_X12_readLine_19, vb_X12_readLine_44, vb_X12_readLine_73, vb_X12_readLine_75, vb_X12_readLine_127, vb_X12_readLine_129, xI_0, xI_1, xI_3, xI_7, xI_8, xI_14, xI_33, xI_37, xI_38, xI_44, xI_49, xI_50, xI_51, xI_52, xI_60, xI_61, xI_62, xw_X12_readLine_0, xw_X12_readLine_19, xw_X12_readLine_44, xw_X12_readLine_73, xw_X12_readLine_75, xw_X12_readLine_127, xw_X12_readLine_129, zw_lit, xB_c, xB_s, xB_n, i1_c, j2_c, k1_c, jJ_e, xlg, xls, xla, xpd, ppush, zw_m1, zw_m2, zw_m3, gf_12_0, gf_12_5, gf_12_7, pf_12_5, tg_12_0, tg_12_5, tg_12_7, gv_590_0, gv_590_5, gv_590_7, xD1, xD2, xD3, xD4, xD5, xD6, xb1_0, z8, n7, zb] at h
                  obtain ⟨r, H8, ⟨p8, s8, g8⟩, h⟩ := xc_use h (sp_X12_takes 59 sz _ w _ (TMt_row (TMt_row t7)) (by decide))
                  have w8 : H8 591 = lnR sz w a B := by
                    rw [p8.1 591 (by decide), pupR, pupR, w7]
                    rw [w4] at r5
                    exact lnR_eq (by omega) hx c5 r5 l5
                  have p8 := PQ_trans (PQ_trans (PQ_trans p7 PQ_row) PQ_row) (PQ_M p8)
                  rcases g8 with ⟨c8, rfl, t8⟩ | ⟨c8, rfl⟩
                  · simp (maxDischargeDepth := 12) -implicitDefEqProofs [vb_X12_readLine_0, vb_X12_readLine_19, vb_X12_readLine_44, vb_X12_readLine_73, vb_X12_readLine_75, vb_X12_readLine_127, vb_X12_readLine_129, xI_0, xI_1, xI_3, xI_7, xI_8, xI_14, xI_33, xI_37, xI_38, xI_44, xI_49, xI_50, xI_51, xI_52, xI_60, xI_61, xI_62, xw_X12_readLine_0, xw_X12_readLine_19, xw_X12_readLine_44, xw_X12_readLine_73, xw_X12_readLine_75, xw_X12_readLine_127, xw_X12_readLine_129, zw_lit, xB_c, xB_s, xB_n, i1_c, j2_c, k1_c, jJ_e, xlg, xls, xla, xpd, ppush, zw_m1, zw_m2, zw_m3, gf_12_0, gf_12_5, gf_12_7, pf_12_5, tg_12_0, tg_12_5, tg_12_7, gv_590_0, gv_590_5, gv_590_7, xD1, xD2, xD3, xD4, xD5, xD6, xb1_0] at h
                    exact ⟨_, H8, h, p8, Or.inl ⟨⟨n60, c1, c2, c3, c4, c5, c6, c7.1, c8⟩, rfl, t8, w8⟩⟩
                  · simp (maxDischargeDepth := 12) -implicitDefEqProofs [vb_X12_readLine_0, vb_X12_readLine_19, vb_X12_readLine_44, vb_X12_readLine_73, vb_X12_readLine_75, vb_X12_readLine_127, vb_X12_readLine_129, xI_0, xI_1, xI_3, xI_7, xI_8, xI_14, xI_33, xI_37, xI_38, xI_44, xI_49, xI_50, xI_51, xI_52, xI_60, xI_61, xI_62, xw_X12_readLine_0, xw_X12_readLine_19, xw_X12_readLine_44, xw_X12_readLine_73, xw_X12_readLine_75, xw_X12_readLine_127, xw_X12_readLine_129, zw_lit, xB_c, xB_s, xB_n, i1_c, j2_c, k1_c, jJ_e, xlg, xls, xla, xpd, ppush, zw_m1, zw_m2, zw_m3, gf_12_0, gf_12_5, gf_12_7, pf_12_5, tg_12_0, tg_12_5, tg_12_7, gv_590_0, gv_590_5, gv_590_7, xD1, xD2, xD3, xD4, xD5, xD6, xb1_0] at h
                    exact ⟨_, H8, h, p8, Or.inr ⟨fun k => c8 k.2.2.2.2.2.2.2.2, rfl⟩⟩
                · simp (maxDischargeDepth := 12) -implicitDefEqProofs [vb_X12_readLine_0, vb_X12_readLine_19, vb_X12_readLine_44, vb_X12_readLine_73, vb_X12_readLine_75, vb_X12_readLine_127, vb_X12_readLine_129, xI_0, xI_1, xI_3, xI_7, xI_8, xI_14, xI_33, xI_37, xI_38, xI_44, xI_49, xI_50, xI_51, xI_52, xI_60, xI_61, xI_62, xw_X12_readLine_0, xw_X12_readLine_19, xw_X12_readLine_44, xw_X12_readLine_73, xw_X12_readLine_75, xw_X12_readLine_127, xw_X12_readLine_129, zw_lit, xB_c, xB_s, xB_n, i1_c, j2_c, k1_c, jJ_e, xlg, xls, xla, xpd, ppush, zw_m1, zw_m2, zw_m3, gf_12_0, gf_12_5, gf_12_7, pf_12_5, tg_12_0, tg_12_5, tg_12_7, gv_590_0, gv_590_5, gv_590_7, xD1, xD2, xD3, xD4, xD5, xD6, xb1_0] at h
                  exact ⟨_, H7, h, p7, Or.inr ⟨fun k => c7 ⟨k.2.2.2.2.2.2.2.1, fun d => by
                    have : nxF sz w (l3F sz w a).2 = 59 := k.2.2.2.2.2.2.2.2
                    unfold l3F l2F l1F at this
                    omega⟩, rfl⟩⟩
              · simp (maxDischargeDepth := 12) -implicitDefEqProofs [vb_X12_readLine_0, vb_X12_readLine_19, vb_X12_readLine_44, vb_X12_readLine_73, vb_X12_readLine_75, vb_X12_readLine_127, vb_X12_readLine_129, xI_0, xI_1, xI_3, xI_7, xI_8, xI_14, xI_33, xI_37, xI_38, xI_44, xI_49, xI_50, xI_51, xI_52, xI_60, xI_61, xI_62, xw_X12_readLine_0, xw_X12_readLine_19, xw_X12_readLine_44, xw_X12_readLine_73, xw_X12_readLine_75, xw_X12_readLine_127, xw_X12_readLine_129, zw_lit, xB_c, xB_s, xB_n, i1_c, j2_c, k1_c, jJ_e, xlg, xls, xla, xpd, ppush, zw_m1, zw_m2, zw_m3, gf_12_0, gf_12_5, gf_12_7, pf_12_5, tg_12_0, tg_12_5, tg_12_7, gv_590_0, gv_590_5, gv_590_7, xD1, xD2, xD3, xD4, xD5, xD6, xb1_0] at h
                exact ⟨_, H6, h, p6, Or.inr ⟨fun k => c6 k.2.2.2.2.2.2.1, rfl⟩⟩
            · simp (maxDischargeDepth := 12) -implicitDefEqProofs [vb_X12_readLine_0, vb_X12_readLine_19, vb_X12_readLine_44, vb_X12_readLine_73, vb_X12_readLine_75, vb_X12_readLine_127, vb_X12_readLine_129, xI_0, xI_1, xI_3, xI_7, xI_8, xI_14, xI_33, xI_37, xI_38, xI_44, xI_49, xI_50, xI_51, xI_52, xI_60, xI_61, xI_62, xw_X12_readLine_0, xw_X12_readLine_19, xw_X12_readLine_44, xw_X12_readLine_73, xw_X12_readLine_75, xw_X12_readLine_127, xw_X12_readLine_129, zw_lit, xB_c, xB_s, xB_n, i1_c, j2_c, k1_c, jJ_e, xlg, xls, xla, xpd, ppush, zw_m1, zw_m2, zw_m3, gf_12_0, gf_12_5, gf_12_7, pf_12_5, tg_12_0, tg_12_5, tg_12_7, gv_590_0, gv_590_5, gv_590_7, xD1, xD2, xD3, xD4, xD5, xD6, xb1_0] at h
              exact ⟨_, H5, h, p5, Or.inr ⟨fun k => c5 k.2.2.2.2.2.1, rfl⟩⟩
          · simp (maxDischargeDepth := 12) -implicitDefEqProofs [vb_X12_readLine_0, vb_X12_readLine_19, vb_X12_readLine_44, vb_X12_readLine_73, vb_X12_readLine_75, vb_X12_readLine_127, vb_X12_readLine_129, xI_0, xI_1, xI_3, xI_7, xI_8, xI_14, xI_33, xI_37, xI_38, xI_44, xI_49, xI_50, xI_51, xI_52, xI_60, xI_61, xI_62, xw_X12_readLine_0, xw_X12_readLine_19, xw_X12_readLine_44, xw_X12_readLine_73, xw_X12_readLine_75, xw_X12_readLine_127, xw_X12_readLine_129, zw_lit, xB_c, xB_s, xB_n, i1_c, j2_c, k1_c, jJ_e, xlg, xls, xla, xpd, ppush, zw_m1, zw_m2, zw_m3, gf_12_0, gf_12_5, gf_12_7, pf_12_5, tg_12_0, tg_12_5, tg_12_7, gv_590_0, gv_590_5, gv_590_7, xD1, xD2, xD3, xD4, xD5, xD6, xb1_0] at h
            exact ⟨_, H4, h, p4, Or.inr ⟨fun k => c4 k.2.2.2.2.1, rfl⟩⟩
        · simp (maxDischargeDepth := 12) -implicitDefEqProofs [vb_X12_readLine_0, vb_X12_readLine_19, vb_X12_readLine_44, vb_X12_readLine_73, vb_X12_readLine_75, vb_X12_readLine_127, vb_X12_readLine_129, xI_0, xI_1, xI_3, xI_7, xI_8, xI_14, xI_33, xI_37, xI_38, xI_44, xI_49, xI_50, xI_51, xI_52, xI_60, xI_61, xI_62, xw_X12_readLine_0, xw_X12_readLine_19, xw_X12_readLine_44, xw_X12_readLine_73, xw_X12_readLine_75, xw_X12_readLine_127, xw_X12_readLine_129, zw_lit, xB_c, xB_s, xB_n, i1_c, j2_c, k1_c, jJ_e, xlg, xls, xla, xpd, ppush, zw_m1, zw_m2, zw_m3, gf_12_0, gf_12_5, gf_12_7, pf_12_5, tg_12_0, tg_12_5, tg_12_7, gv_590_0, gv_590_5, gv_590_7, xD1, xD2, xD3, xD4, xD5, xD6, xb1_0] at h
          exact ⟨_, H3, h, p3, Or.inr ⟨fun k => c3 k.2.2.2.1, rfl⟩⟩
      · simp (maxDischargeDepth := 12) -implicitDefEqProofs [vb_X12_readLine_0, vb_X12_readLine_19, vb_X12_readLine_44, vb_X12_readLine_73, vb_X12_readLine_75, vb_X12_readLine_127, vb_X12_readLine_129, xI_0, xI_1, xI_3, xI_7, xI_8, xI_14, xI_33, xI_37, xI_38, xI_44, xI_49, xI_50, xI_51, xI_52, xI_60, xI_61, xI_62, xw_X12_readLine_0, xw_X12_readLine_19, xw_X12_readLine_44, xw_X12_readLine_73, xw_X12_readLine_75, xw_X12_readLine_127, xw_X12_readLine_129, zw_lit, xB_c, xB_s, xB_n, i1_c, j2_c, k1_c, jJ_e, xlg, xls, xla, xpd, ppush, zw_m1, zw_m2, zw_m3, gf_12_0, gf_12_5, gf_12_7, pf_12_5, tg_12_0, tg_12_5, tg_12_7, gv_590_0, gv_590_5, gv_590_7, xD1, xD2, xD3, xD4, xD5, xD6, xb1_0] at h
        exact ⟨_, H2, h, p2, Or.inr ⟨fun k => c2 k.2.2.1, rfl⟩⟩
    · simp (maxDischargeDepth := 12) -implicitDefEqProofs [vb_X12_readLine_0, vb_X12_readLine_19, vb_X12_readLine_44, vb_X12_readLine_73, vb_X12_readLine_75, vb_X12_readLine_127, vb_X12_readLine_129, xI_0, xI_1, xI_3, xI_7, xI_8, xI_14, xI_33, xI_37, xI_38, xI_44, xI_49, xI_50, xI_51, xI_52, xI_60, xI_61, xI_62, xw_X12_readLine_0, xw_X12_readLine_19, xw_X12_readLine_44, xw_X12_readLine_73, xw_X12_readLine_75, xw_X12_readLine_127, xw_X12_readLine_129, zw_lit, xB_c, xB_s, xB_n, i1_c, j2_c, k1_c, jJ_e, xlg, xls, xla, xpd, ppush, zw_m1, zw_m2, zw_m3, gf_12_0, gf_12_5, gf_12_7, pf_12_5, tg_12_0, tg_12_5, tg_12_7, gv_590_0, gv_590_5, gv_590_7, xD1, xD2, xD3, xD4, xD5, xD6, xb1_0] at h
      exact ⟨_, H1, h, p1, Or.inr ⟨fun k => c1 k.2.1, rfl⟩⟩
/-! the whole text -/
section TW
variable (sz : Int) (w : Int → Int)
def itK (a : Int) (B : Int → Int) : Prop := (nxF sz w a = 98 ∧ blK sz w a B) ∨ (nxF sz w a = 126 ∧ cpK sz w a B) ∨ (nxF sz w a = 116 ∧ lnK sz w a B)
def itE (a : Int) : Int := if nxF sz w a = 98 then blE sz w a else if nxF sz w a = 126 then a + 4 else lnE sz w a
def itR (a : Int) (B : Int → Int) : Int → Int := if nxF sz w a = 98 then blR sz w a B else if nxF sz w a = 126 then cpR sz w a B else lnR sz w a B
/-- n items, and nothing behind them -/
def txK : Nat → Int → (Int → Int) → (Int → Int) → Prop
  | 0, a, B, B' => sz ≤ a ∧ B' = B
  | n + 1, a, B, B' => a < sz ∧ itK sz w a B ∧ txK n (itE sz w a) (itR sz w a B) B'
end TW
theorem txK_inj {sz : Int} {w : Int → Int} : ∀ (n n' : Nat) (a : Int) (B B' B'' : Int → Int), txK sz w n a B B' → txK sz w n' a B B'' → n = n' ∧ B' = B''
  | 0, 0, a, B, B', B'', h, h' => ⟨rfl, h.2.trans h'.2.symm⟩
  | 0, n' + 1, a, B, B', B'', h, h' => by have := h.1; have := h'.1; omega
  | n + 1, 0, a, B, B', B'', h, h' => by have := h.1; have := h'.1; omega
  | n + 1, n' + 1, a, B, B', B'', h, h' => by
    obtain ⟨e1, e2⟩ := txK_inj n n' _ _ _ _ h.2.2 h'.2.2
    exact ⟨by omega, e2⟩
theorem dgF_ge (sz : Int) (w : Int → Int) : ∀ (n : Nat) (a v : Int), a ≤ (dgF sz w n a v).2
  | 0, a, v => Int.le_refl _
  | n + 1, a, v => by
    unfold dgF
    split
    · have := dgF_ge sz w n (a + 1) (10 * v + nxF sz w a - 48)
      omega
    · exact Int.le_refl _
theorem itE_gt {sz : Int} {w : Int → Int} {a : Int} : a + 1 ≤ itE sz w a := by
  unfold itE
  split
  · unfold blE b4F b3F b2F b1F
    have h1 := dgF_ge sz w 3 (a + 1 + rnF sz w 0 9 (a + 1) + 1) 0
    have h2 := dgF_ge sz w 4 ((dgF sz w 3 (a + 1 + rnF sz w 0 9 (a + 1) + 1) 0).2 + 1) 0
    have := rnF_in sz w 0 9 (a + 1)
    omega
  · split
    · omega
    · unfold lnE l3F l2F l1F
      have h1 := dgF_ge sz w 3 (a + 5 + rnF sz w 1 9 (a + 5) + 1) 0
      have := rnF_in sz w 1 9 (a + 5)
      omega
def cnI (B : Int → Int) : Int := B 0 + B 1 + B 2
theorem itR_c {sz : Int} {w : Int → Int} {a : Int} {B : Int → Int} (hB : (0 ≤ B 0 ∧ B 0 ≤ 12) ∧ (0 ≤ B 1 ∧ B 1 ≤ 8) ∧ (0 ≤ B 2 ∧ B 2 ≤ 60)) (h : itK sz w a B) : cnI (itR sz w a B) = cnI B + 1 ∧ B 0 ≤ itR sz w a B 0 ∧ B 1 ≤ itR sz w a B 1 ∧ B 2 ≤ itR sz w a B 2 ∧ (0 ≤ itR sz w a B 0 ∧ itR sz w a B 0 ≤ 12) ∧ (0 ≤ itR sz w a B 1 ∧ itR sz w a B 1 ≤ 8) ∧ (0 ≤ itR sz w a B 2 ∧ itR sz w a B 2 ≤ 60) := by
  unfold itR cnI
  rcases h with ⟨h0, h⟩ | ⟨h0, h⟩ | ⟨h0, h⟩
  · rw [if_pos h0]
    have := h.1
    have e0 : blR sz w a B 0 = B 0 + 1 := if_pos rfl
    have e1 : blR sz w a B 1 = B 1 := by unfold blR; rw [if_neg (by omega), if_neg (by omega)]
    have e2 : blR sz w a B 2 = B 2 := by unfold blR; rw [if_neg (by omega), if_neg (by omega)]
    omega
  · rw [if_neg (by omega), if_pos h0]
    have := h.1
    have e0 : cpR sz w a B 0 = B 0 := by unfold cpR xup; rw [if_neg (by omega), if_neg (by omega), if_neg (by omega)]
    have e1 : cpR sz w a B 1 = B 1 + 1 := by unfold cpR xup; rw [if_pos rfl]
    have e2 : cpR sz w a B 2 = B 2 := by unfold cpR xup; rw [if_neg (by omega), if_neg (by omega), if_neg (by omega)]
    omega
  · rw [if_neg (by omega), if_neg (by omega)]
    have := h.1
    have e0 : lnR sz w a B 0 = B 0 := by
      unfold lnR
      rw [if_neg (by omega), if_neg (by omega), if_neg (by omega), if_neg (by omega), if_neg (by omega), if_neg (by omega)]
    have e1 : lnR sz w a B 1 = B 1 := by
      unfold lnR
      rw [if_neg (by omega), if_neg (by omega), if_neg (by omega), if_neg (by omega), if_neg (by omega), if_neg (by omega)]
    have e2 : lnR sz w a B 2 = B 2 + 1 := if_pos rfl
    omega
