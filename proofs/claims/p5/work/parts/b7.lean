/-! the model's law: a thing, and all of it -/
theorem MFl_P {H H' : PH} (p : PMt H H') : MFl H H' := ⟨fun c h1 _ _ _ => p.1 c h1, fun i h1 h2 h3 => p.2 i (by omega) (by omega) (by omega)⟩
theorem LKm_th {sz : Int} {T : Int → Int} {o : Nat} {s : LwS} {H : PH} (h : LKm sz T o s H) : LKm sz T o (s.1, s.2.1 + 1, s.2.2) (pup H 590 11 (s.2.1 + 1)) := by
  obtain ⟨h1, h2, h3, h4, h5, h6⟩ := h
  exact ⟨TMt_eq h1 (by rw [xp_at, if_neg (by decide)]) (xp_ne (by decide)) (by rw [xp_at, if_neg (by decide)]; exact h1.2.2.1) ⟨h1.2.2.2.1, h1.2.2.2.2.1⟩, by rw [xp_at, if_neg (by decide)]; exact h2, by rw [xp_at, if_pos rfl], fun k hk => by rw [xp_ne (by decide)]; exact h4 k hk, by rw [xp_at, if_neg (by decide)]; exact h5, by rw [xp_at, if_neg (by decide)]; exact h6⟩
/-- a value comes -/
theorem AST_val {sz : Int} {T : Int → Int} {R : Option (Int × List Int)} {o : Nat} {s : LwS} {H X : PH} {a v : Int} (hE : EST sz T R o s H) (h30 : s.2.1 < 30) (lk : LKm sz T o (a, s.2.1 + 1, s.2.2) X) (ha : 0 ≤ a ∧ a ≤ sz) (x6 : X 596 = H 596) (x7 : X 597 = H 597) (hk : kA T sz (H 596) (H 597) o (a, s.2.1 + 1, s.2.2 ++ [v]) = R) : AST sz T R o (pst (a, s.2.1 + 1, s.2.2) v) (pup (pup X 595 (X 590 10) v) 590 10 (X 590 10 + 1)) := by
  obtain ⟨e1, e2, e3, e4, e5, e6⟩ := hE
  have pn := pnF_in (H 596) (H 597) o
  have pl := pst_len (s := (a, s.2.1 + 1, s.2.2)) (v := v)
  have r6 : pup (pup X 595 (X 590 10) v) 590 10 (X 590 10 + 1) 596 = H 596 := by rw [xp_ne (by decide), xp_ne (by decide), x6]
  have r7 : pup (pup X 595 (X 590 10) v) 590 10 (X 590 10 + 1) 597 = H 597 := by rw [xp_ne (by decide), xp_ne (by decide), x7]
  have t0 := e2.2.2.1
  refine ⟨LKm_does lk, LGd_pst ⟨ha.1, ha.2, by show 0 ≤ s.2.1 + 1; omega, by show s.2.1 + 1 ≤ 30; omega, by show (s.2.2.length : Int) ≤ 2 * (s.2.1 + 1); omega⟩ (by show (s.2.2.length : Int) + 1 ≤ 2 * (s.2.1 + 1); omega), ?_, by show 1 ≤ s.2.1 + 1; omega, e4, by rw [r6, r7]; exact e5, by rw [r6, r7]; exact hk⟩
  rw [r6, r7, pl]
  show (s.2.2.length : Int) + 1 + pnF (H 596) (H 597) o + 1 ≤ 2 * (s.2.1 + 1)
  omega
/-- what a thing comes to -/
def RTs (sz : Int) (T : Int → Int) (R : Option (Int × List Int)) (H0 : PH) (r : Option pv) (H' : PH) : Prop := MFl H0 H' ∧ ((r = some (0, -1) ∧ R = none) ∨ (r = some (0, 1) ∧ ∃ (o' : Nat) (s' : LwS), AST sz T R o' s' H') ∨ (r = some (0, 0) ∧ ∃ (o' : Nat) (s' : LwS), EST sz T R o' s' H'))
set_option maxRecDepth 100000 in
theorem sp_X12_readThing (sz : Int) (T : Int → Int) (hT0 : ∀ i, 0 ≤ i → i < sz → 0 ≤ T i ∧ T i ≤ 255) (R : Option (Int × List Int)) (o : Nat) (s : LwS) (H : PH) (hE : EST sz T R o s H) : SPEC 185 [(2, 590)] H (fun r H' => RTs sz T R H r H') := by
  intro E n res h
  obtain ⟨lk, hg, hl, h8, hb, hk⟩ := id hE
  have s0 := hg.1
  have eb : nxb T sz s.1 = nxF sz T s.1 := nxb_nx s0
  have en := TMt_he lk.1
  have e5 := lk.1.2.2.1
  have e11 := lk.2.2.1
  have h14 := lk.2.2.2.2.1
  have t0 := hg.2.2.1
  obtain ⟨p, ep⟩ : ∃ p : Int, p = o := ⟨_, rfl⟩
  rw [← ep] at h14
  have bad : ∀ X : PH, X = pup H 590 6 s.1 → (30 ≤ s.2.1 ∨ o = 8 ∨ ¬ (nxF sz T s.1 = 40 ∨ isD (nxF sz T s.1) ∨ nxF sz T s.1 = 115 ∨ nxF sz T s.1 = 111 ∨ nxF sz T s.1 = 99)) → REPR E res (some (0, -1)) X → ∃ r H', REPR E res r H' ∧ RTs sz T R H r H' := by
    rintro X rfl w g
    exact ⟨_, _, g, MFl_up (by decide), Or.inl ⟨rfl, by rw [← hk]; exact kE_none o s (by rw [eb]; exact w)⟩⟩
  by_cases c1 : nxF sz T s.1 = 115
  · by_cases q30 : s.2.1 = 30
    · have h := call_runP 3 vm_X12_readThing h
      have h := xw_top (hd := []) 11 xD6_ok xc_X12_readThing xa_X12_readThing (t := 0) rfl h
      simp (maxDischargeDepth := 12) -implicitDefEqProofs [vb_X12_readThing_0, vb_X12_readThing_26, vb_X12_readThing_30, vb_X12_readThing_31, vb_X12_readThing_54, vb_X12_readThing_64, vb_X12_readThing_91, vb_X12_readThing_101, vb_X12_readThing_131, xI_0, xI_1, xI_3, xI_7, xI_8, xI_9, xI_14, xI_33, xI_36, xI_37, xI_38, xI_43, xI_44, xI_49, xI_50, xI_52, xI_60, xI_61, xI_62, xw_X12_readThing_0, xw_X12_readThing_26, xw_X12_readThing_30, xw_X12_readThing_31, xw_X12_readThing_54, xw_X12_readThing_64, xw_X12_readThing_91, xw_X12_readThing_101, xw_X12_readThing_131, zw_lit, xB_c, xB_s, xB_n, i1_c, j2_c, k1_c, jJ_e, xlg, xls, xla, xpd, ppush, zw_m1, zw_m2, zw_m3, gf_12_5, gf_12_7, gf_12_11, gf_12_12, gf_12_13, gf_12_14, pf_12_5, pf_12_6, pf_12_11, pf_12_14, tg_12_11, tg_12_12, tg_12_13, tg_12_14, tg_12_5, tg_12_6, tg_12_7, gv_590_5, gv_590_7, gv_590_11, gv_590_12, gv_590_13, gv_590_14, xD1, xD2, xD3, xD4, xD5, xD6, xb1_0, en, c1, e5, e11, h14, q30] at h
      exact bad _ rfl (Or.inl (by omega)) h
    · by_cases q8 : p = 8
      · have h := call_runP 3 vm_X12_readThing h
        have h := xw_top (hd := []) 11 xD6_ok xc_X12_readThing xa_X12_readThing (t := 0) rfl h
        simp (maxDischargeDepth := 12) -implicitDefEqProofs [vb_X12_readThing_0, vb_X12_readThing_26, vb_X12_readThing_30, vb_X12_readThing_31, vb_X12_readThing_54, vb_X12_readThing_64, vb_X12_readThing_91, vb_X12_readThing_101, vb_X12_readThing_131, xI_0, xI_1, xI_3, xI_7, xI_8, xI_9, xI_14, xI_33, xI_36, xI_37, xI_38, xI_43, xI_44, xI_49, xI_50, xI_52, xI_60, xI_61, xI_62, xw_X12_readThing_0, xw_X12_readThing_26, xw_X12_readThing_30, xw_X12_readThing_31, xw_X12_readThing_54, xw_X12_readThing_64, xw_X12_readThing_91, xw_X12_readThing_101, xw_X12_readThing_131, zw_lit, xB_c, xB_s, xB_n, i1_c, j2_c, k1_c, jJ_e, xlg, xls, xla, xpd, ppush, zw_m1, zw_m2, zw_m3, gf_12_5, gf_12_7, gf_12_11, gf_12_12, gf_12_13, gf_12_14, pf_12_5, pf_12_6, pf_12_11, pf_12_14, tg_12_11, tg_12_12, tg_12_13, tg_12_14, tg_12_5, tg_12_6, tg_12_7, gv_590_5, gv_590_7, gv_590_11, gv_590_12, gv_590_13, gv_590_14, xD1, xD2, xD3, xD4, xD5, xD6, xb1_0, en, c1, e5, e11, h14, q30, q8] at h
        exact bad _ rfl (Or.inr (Or.inl (by omega))) h
      · have h30 : s.2.1 < 30 := by have := hg.2.2.2.1; omega
        have z11 : zw (s.2.1 + 1) = s.2.1 + 1 := zw_lit (by omega) (by omega)
        have hz := nxb_lt (T := T) (z := sz) (a := s.1) (by omega)
        have sz6 := lk.1.2.2.2.2.2
        have z1 : zw (s.1 + 1) = s.1 + 1 := zw_lit (by omega) (by omega)
        have h := call_runP 3 vm_X12_readThing h
        have h := xw_top (hd := []) 11 xD6_ok xc_X12_readThing xa_X12_readThing (t := 0) rfl h
        simp (maxDischargeDepth := 12) -implicitDefEqProofs [vb_X12_readThing_0, vb_X12_readThing_26, vb_X12_readThing_30, vb_X12_readThing_31, vb_X12_readThing_54, vb_X12_readThing_64, vb_X12_readThing_91, vb_X12_readThing_101, vb_X12_readThing_131, xI_0, xI_1, xI_3, xI_7, xI_8, xI_9, xI_14, xI_33, xI_36, xI_37, xI_38, xI_43, xI_44, xI_49, xI_50, xI_52, xI_60, xI_61, xI_62, xw_X12_readThing_0, xw_X12_readThing_26, xw_X12_readThing_30, xw_X12_readThing_31, xw_X12_readThing_54, xw_X12_readThing_64, xw_X12_readThing_91, xw_X12_readThing_101, xw_X12_readThing_131, zw_lit, xB_c, xB_s, xB_n, i1_c, j2_c, k1_c, jJ_e, xlg, xls, xla, xpd, ppush, zw_m1, zw_m2, zw_m3, gf_12_5, gf_12_7, gf_12_11, gf_12_12, gf_12_13, gf_12_14, pf_12_5, pf_12_6, pf_12_11, pf_12_14, tg_12_11, tg_12_12, tg_12_13, tg_12_14, tg_12_5, tg_12_6, tg_12_7, gv_590_5, gv_590_7, gv_590_11, gv_590_12, gv_590_13, gv_590_14, xD1, xD2, xD3, xD4, xD5, xD6, xb1_0, en, c1, e5, e11, h14, q30, q8, z11, xp_at, z1] at h
        have lk2 := LKm_at (LKm_th lk) hz
        obtain ⟨r, H1, ⟨rfl, rfl⟩, g⟩ := xc_use h (sp_X12_does _ _)
        have h10 := lk2.2.1
        have ll := hg.2.2.2.2
        have h10' : pup (pup H 590 11 (s.2.1 + 1)) 590 5 (s.1 + 1) 590 10 = (s.2.2.length : Int) := h10
        rw [zw_lit (x := pup (pup H 590 11 (s.2.1 + 1)) 590 5 (s.1 + 1) 590 10 + 1) (by omega) (by omega)] at g
        refine ⟨_, _, g, MFl_trans (MFl_trans (MFl_up (by omega)) (MFl_up (by omega))) (MFl_trans (MFl_up (by omega)) (MFl_up (by omega))), Or.inr (Or.inl ⟨rfl, o, _, AST_val hE h30 lk2 ⟨by omega, by omega⟩ (by rw [xp_ne (by decide), xp_ne (by decide)]) (by rw [xp_ne (by decide), xp_ne (by decide)]) ?_⟩)⟩
        rw [← hk]
        exact ((kE_one (T := T) (z := sz) (su := H 596) (pr := H 597) o (by omega) s h30).2.1 (by rw [eb]; exact c1)).symm
  by_cases c1 : nxF sz T s.1 = 111
  · by_cases q30 : s.2.1 = 30
    · have h := call_runP 3 vm_X12_readThing h
      have h := xw_top (hd := []) 11 xD6_ok xc_X12_readThing xa_X12_readThing (t := 0) rfl h
      simp (maxDischargeDepth := 12) -implicitDefEqProofs [vb_X12_readThing_0, vb_X12_readThing_26, vb_X12_readThing_30, vb_X12_readThing_31, vb_X12_readThing_54, vb_X12_readThing_64, vb_X12_readThing_91, vb_X12_readThing_101, vb_X12_readThing_131, xI_0, xI_1, xI_3, xI_7, xI_8, xI_9, xI_14, xI_33, xI_36, xI_37, xI_38, xI_43, xI_44, xI_49, xI_50, xI_52, xI_60, xI_61, xI_62, xw_X12_readThing_0, xw_X12_readThing_26, xw_X12_readThing_30, xw_X12_readThing_31, xw_X12_readThing_54, xw_X12_readThing_64, xw_X12_readThing_91, xw_X12_readThing_101, xw_X12_readThing_131, zw_lit, xB_c, xB_s, xB_n, i1_c, j2_c, k1_c, jJ_e, xlg, xls, xla, xpd, ppush, zw_m1, zw_m2, zw_m3, gf_12_5, gf_12_7, gf_12_11, gf_12_12, gf_12_13, gf_12_14, pf_12_5, pf_12_6, pf_12_11, pf_12_14, tg_12_11, tg_12_12, tg_12_13, tg_12_14, tg_12_5, tg_12_6, tg_12_7, gv_590_5, gv_590_7, gv_590_11, gv_590_12, gv_590_13, gv_590_14, xD1, xD2, xD3, xD4, xD5, xD6, xb1_0, en, c1, e5, e11, h14, q30] at h
      exact bad _ rfl (Or.inl (by omega)) h
    · by_cases q8 : p = 8
      · have h := call_runP 3 vm_X12_readThing h
        have h := xw_top (hd := []) 11 xD6_ok xc_X12_readThing xa_X12_readThing (t := 0) rfl h
        simp (maxDischargeDepth := 12) -implicitDefEqProofs [vb_X12_readThing_0, vb_X12_readThing_26, vb_X12_readThing_30, vb_X12_readThing_31, vb_X12_readThing_54, vb_X12_readThing_64, vb_X12_readThing_91, vb_X12_readThing_101, vb_X12_readThing_131, xI_0, xI_1, xI_3, xI_7, xI_8, xI_9, xI_14, xI_33, xI_36, xI_37, xI_38, xI_43, xI_44, xI_49, xI_50, xI_52, xI_60, xI_61, xI_62, xw_X12_readThing_0, xw_X12_readThing_26, xw_X12_readThing_30, xw_X12_readThing_31, xw_X12_readThing_54, xw_X12_readThing_64, xw_X12_readThing_91, xw_X12_readThing_101, xw_X12_readThing_131, zw_lit, xB_c, xB_s, xB_n, i1_c, j2_c, k1_c, jJ_e, xlg, xls, xla, xpd, ppush, zw_m1, zw_m2, zw_m3, gf_12_5, gf_12_7, gf_12_11, gf_12_12, gf_12_13, gf_12_14, pf_12_5, pf_12_6, pf_12_11, pf_12_14, tg_12_11, tg_12_12, tg_12_13, tg_12_14, tg_12_5, tg_12_6, tg_12_7, gv_590_5, gv_590_7, gv_590_11, gv_590_12, gv_590_13, gv_590_14, xD1, xD2, xD3, xD4, xD5, xD6, xb1_0, en, c1, e5, e11, h14, q30, q8] at h
        exact bad _ rfl (Or.inr (Or.inl (by omega))) h
      · have h30 : s.2.1 < 30 := by have := hg.2.2.2.1; omega
        have z11 : zw (s.2.1 + 1) = s.2.1 + 1 := zw_lit (by omega) (by omega)
        have hz := nxb_lt (T := T) (z := sz) (a := s.1) (by omega)
        have sz6 := lk.1.2.2.2.2.2
        have z1 : zw (s.1 + 1) = s.1 + 1 := zw_lit (by omega) (by omega)
        have h := call_runP 3 vm_X12_readThing h
        have h := xw_top (hd := []) 11 xD6_ok xc_X12_readThing xa_X12_readThing (t := 0) rfl h
        simp (maxDischargeDepth := 12) -implicitDefEqProofs [vb_X12_readThing_0, vb_X12_readThing_26, vb_X12_readThing_30, vb_X12_readThing_31, vb_X12_readThing_54, vb_X12_readThing_64, vb_X12_readThing_91, vb_X12_readThing_101, vb_X12_readThing_131, xI_0, xI_1, xI_3, xI_7, xI_8, xI_9, xI_14, xI_33, xI_36, xI_37, xI_38, xI_43, xI_44, xI_49, xI_50, xI_52, xI_60, xI_61, xI_62, xw_X12_readThing_0, xw_X12_readThing_26, xw_X12_readThing_30, xw_X12_readThing_31, xw_X12_readThing_54, xw_X12_readThing_64, xw_X12_readThing_91, xw_X12_readThing_101, xw_X12_readThing_131, zw_lit, xB_c, xB_s, xB_n, i1_c, j2_c, k1_c, jJ_e, xlg, xls, xla, xpd, ppush, zw_m1, zw_m2, zw_m3, gf_12_5, gf_12_7, gf_12_11, gf_12_12, gf_12_13, gf_12_14, pf_12_5, pf_12_6, pf_12_11, pf_12_14, tg_12_11, tg_12_12, tg_12_13, tg_12_14, tg_12_5, tg_12_6, tg_12_7, gv_590_5, gv_590_7, gv_590_11, gv_590_12, gv_590_13, gv_590_14, xD1, xD2, xD3, xD4, xD5, xD6, xb1_0, en, c1, e5, e11, h14, q30, q8, z11, xp_at, z1] at h
        have lk2 := LKm_at (LKm_th lk) hz
        obtain ⟨r, H1, ⟨rfl, rfl⟩, g⟩ := xc_use h (sp_X12_does _ _)
        have h10 := lk2.2.1
        have ll := hg.2.2.2.2
        have h10' : pup (pup H 590 11 (s.2.1 + 1)) 590 5 (s.1 + 1) 590 10 = (s.2.2.length : Int) := h10
        rw [zw_lit (x := pup (pup H 590 11 (s.2.1 + 1)) 590 5 (s.1 + 1) 590 10 + 1) (by omega) (by omega)] at g
        refine ⟨_, _, g, MFl_trans (MFl_trans (MFl_up (by omega)) (MFl_up (by omega))) (MFl_trans (MFl_up (by omega)) (MFl_up (by omega))), Or.inr (Or.inl ⟨rfl, o, _, AST_val hE h30 lk2 ⟨by omega, by omega⟩ (by rw [xp_ne (by decide), xp_ne (by decide)]) (by rw [xp_ne (by decide), xp_ne (by decide)]) ?_⟩)⟩
        rw [← hk]
        exact ((kE_one (T := T) (z := sz) (su := H 596) (pr := H 597) o (by omega) s h30).2.2.1 (by rw [eb]; exact c1)).symm
  by_cases c1 : nxF sz T s.1 = 99
  · by_cases q30 : s.2.1 = 30
    · have h := call_runP 3 vm_X12_readThing h
      have h := xw_top (hd := []) 11 xD6_ok xc_X12_readThing xa_X12_readThing (t := 0) rfl h
      simp (maxDischargeDepth := 12) -implicitDefEqProofs [vb_X12_readThing_0, vb_X12_readThing_26, vb_X12_readThing_30, vb_X12_readThing_31, vb_X12_readThing_54, vb_X12_readThing_64, vb_X12_readThing_91, vb_X12_readThing_101, vb_X12_readThing_131, xI_0, xI_1, xI_3, xI_7, xI_8, xI_9, xI_14, xI_33, xI_36, xI_37, xI_38, xI_43, xI_44, xI_49, xI_50, xI_52, xI_60, xI_61, xI_62, xw_X12_readThing_0, xw_X12_readThing_26, xw_X12_readThing_30, xw_X12_readThing_31, xw_X12_readThing_54, xw_X12_readThing_64, xw_X12_readThing_91, xw_X12_readThing_101, xw_X12_readThing_131, zw_lit, xB_c, xB_s, xB_n, i1_c, j2_c, k1_c, jJ_e, xlg, xls, xla, xpd, ppush, zw_m1, zw_m2, zw_m3, gf_12_5, gf_12_7, gf_12_11, gf_12_12, gf_12_13, gf_12_14, pf_12_5, pf_12_6, pf_12_11, pf_12_14, tg_12_11, tg_12_12, tg_12_13, tg_12_14, tg_12_5, tg_12_6, tg_12_7, gv_590_5, gv_590_7, gv_590_11, gv_590_12, gv_590_13, gv_590_14, xD1, xD2, xD3, xD4, xD5, xD6, xb1_0, en, c1, e5, e11, h14, q30] at h
      exact bad _ rfl (Or.inl (by omega)) h
    · by_cases q8 : p = 8
      · have h := call_runP 3 vm_X12_readThing h
        have h := xw_top (hd := []) 11 xD6_ok xc_X12_readThing xa_X12_readThing (t := 0) rfl h
        simp (maxDischargeDepth := 12) -implicitDefEqProofs [vb_X12_readThing_0, vb_X12_readThing_26, vb_X12_readThing_30, vb_X12_readThing_31, vb_X12_readThing_54, vb_X12_readThing_64, vb_X12_readThing_91, vb_X12_readThing_101, vb_X12_readThing_131, xI_0, xI_1, xI_3, xI_7, xI_8, xI_9, xI_14, xI_33, xI_36, xI_37, xI_38, xI_43, xI_44, xI_49, xI_50, xI_52, xI_60, xI_61, xI_62, xw_X12_readThing_0, xw_X12_readThing_26, xw_X12_readThing_30, xw_X12_readThing_31, xw_X12_readThing_54, xw_X12_readThing_64, xw_X12_readThing_91, xw_X12_readThing_101, xw_X12_readThing_131, zw_lit, xB_c, xB_s, xB_n, i1_c, j2_c, k1_c, jJ_e, xlg, xls, xla, xpd, ppush, zw_m1, zw_m2, zw_m3, gf_12_5, gf_12_7, gf_12_11, gf_12_12, gf_12_13, gf_12_14, pf_12_5, pf_12_6, pf_12_11, pf_12_14, tg_12_11, tg_12_12, tg_12_13, tg_12_14, tg_12_5, tg_12_6, tg_12_7, gv_590_5, gv_590_7, gv_590_11, gv_590_12, gv_590_13, gv_590_14, xD1, xD2, xD3, xD4, xD5, xD6, xb1_0, en, c1, e5, e11, h14, q30, q8] at h
        exact bad _ rfl (Or.inr (Or.inl (by omega))) h
      · have h30 : s.2.1 < 30 := by have := hg.2.2.2.1; omega
        have z11 : zw (s.2.1 + 1) = s.2.1 + 1 := zw_lit (by omega) (by omega)
        have hz := nxb_lt (T := T) (z := sz) (a := s.1) (by omega)
        have sz6 := lk.1.2.2.2.2.2
        have z1 : zw (s.1 + 1) = s.1 + 1 := zw_lit (by omega) (by omega)
        have h := call_runP 3 vm_X12_readThing h
        have h := xw_top (hd := []) 11 xD6_ok xc_X12_readThing xa_X12_readThing (t := 0) rfl h
        simp (maxDischargeDepth := 12) -implicitDefEqProofs [vb_X12_readThing_0, vb_X12_readThing_26, vb_X12_readThing_30, vb_X12_readThing_31, vb_X12_readThing_54, vb_X12_readThing_64, vb_X12_readThing_91, vb_X12_readThing_101, vb_X12_readThing_131, xI_0, xI_1, xI_3, xI_7, xI_8, xI_9, xI_14, xI_33, xI_36, xI_37, xI_38, xI_43, xI_44, xI_49, xI_50, xI_52, xI_60, xI_61, xI_62, xw_X12_readThing_0, xw_X12_readThing_26, xw_X12_readThing_30, xw_X12_readThing_31, xw_X12_readThing_54, xw_X12_readThing_64, xw_X12_readThing_91, xw_X12_readThing_101, xw_X12_readThing_131, zw_lit, xB_c, xB_s, xB_n, i1_c, j2_c, k1_c, jJ_e, xlg, xls, xla, xpd, ppush, zw_m1, zw_m2, zw_m3, gf_12_5, gf_12_7, gf_12_11, gf_12_12, gf_12_13, gf_12_14, pf_12_5, pf_12_6, pf_12_11, pf_12_14, tg_12_11, tg_12_12, tg_12_13, tg_12_14, tg_12_5, tg_12_6, tg_12_7, gv_590_5, gv_590_7, gv_590_11, gv_590_12, gv_590_13, gv_590_14, xD1, xD2, xD3, xD4, xD5, xD6, xb1_0, en, c1, e5, e11, h14, q30, q8, z11, xp_at, z1] at h
        have lk2 := LKm_at (LKm_th lk) hz
        obtain ⟨r, H1, ⟨rfl, rfl⟩, g⟩ := xc_use h (sp_X12_does _ _)
        have h10 := lk2.2.1
        have ll := hg.2.2.2.2
        have h10' : pup (pup H 590 11 (s.2.1 + 1)) 590 5 (s.1 + 1) 590 10 = (s.2.2.length : Int) := h10
        rw [zw_lit (x := pup (pup H 590 11 (s.2.1 + 1)) 590 5 (s.1 + 1) 590 10 + 1) (by omega) (by omega)] at g
        refine ⟨_, _, g, MFl_trans (MFl_trans (MFl_up (by omega)) (MFl_up (by omega))) (MFl_trans (MFl_up (by omega)) (MFl_up (by omega))), Or.inr (Or.inl ⟨rfl, o, _, AST_val hE h30 lk2 ⟨by omega, by omega⟩ (by rw [xp_ne (by decide), xp_ne (by decide)]) (by rw [xp_ne (by decide), xp_ne (by decide)]) ?_⟩)⟩
        rw [← hk]
        exact ((kE_one (T := T) (z := sz) (su := H 596) (pr := H 597) o (by omega) s h30).2.2.2 (by rw [eb]; exact c1)).symm
  by_cases c1 : nxF sz T s.1 = 40
  · by_cases q30 : s.2.1 = 30
    · have h := call_runP 3 vm_X12_readThing h
      have h := xw_top (hd := []) 11 xD6_ok xc_X12_readThing xa_X12_readThing (t := 0) rfl h
      simp (maxDischargeDepth := 12) -implicitDefEqProofs [vb_X12_readThing_0, vb_X12_readThing_26, vb_X12_readThing_30, vb_X12_readThing_31, vb_X12_readThing_54, vb_X12_readThing_64, vb_X12_readThing_91, vb_X12_readThing_101, vb_X12_readThing_131, xI_0, xI_1, xI_3, xI_7, xI_8, xI_9, xI_14, xI_33, xI_36, xI_37, xI_38, xI_43, xI_44, xI_49, xI_50, xI_52, xI_60, xI_61, xI_62, xw_X12_readThing_0, xw_X12_readThing_26, xw_X12_readThing_30, xw_X12_readThing_31, xw_X12_readThing_54, xw_X12_readThing_64, xw_X12_readThing_91, xw_X12_readThing_101, xw_X12_readThing_131, zw_lit, xB_c, xB_s, xB_n, i1_c, j2_c, k1_c, jJ_e, xlg, xls, xla, xpd, ppush, zw_m1, zw_m2, zw_m3, gf_12_5, gf_12_7, gf_12_11, gf_12_12, gf_12_13, gf_12_14, pf_12_5, pf_12_6, pf_12_11, pf_12_14, tg_12_11, tg_12_12, tg_12_13, tg_12_14, tg_12_5, tg_12_6, tg_12_7, gv_590_5, gv_590_7, gv_590_11, gv_590_12, gv_590_13, gv_590_14, xD1, xD2, xD3, xD4, xD5, xD6, xb1_0, en, c1, e5, e11, h14, q30] at h
      exact bad _ rfl (Or.inl (by omega)) h
    · by_cases q8 : p = 8
      · have h := call_runP 3 vm_X12_readThing h
        have h := xw_top (hd := []) 11 xD6_ok xc_X12_readThing xa_X12_readThing (t := 0) rfl h
        simp (maxDischargeDepth := 12) -implicitDefEqProofs [vb_X12_readThing_0, vb_X12_readThing_26, vb_X12_readThing_30, vb_X12_readThing_31, vb_X12_readThing_54, vb_X12_readThing_64, vb_X12_readThing_91, vb_X12_readThing_101, vb_X12_readThing_131, xI_0, xI_1, xI_3, xI_7, xI_8, xI_9, xI_14, xI_33, xI_36, xI_37, xI_38, xI_43, xI_44, xI_49, xI_50, xI_52, xI_60, xI_61, xI_62, xw_X12_readThing_0, xw_X12_readThing_26, xw_X12_readThing_30, xw_X12_readThing_31, xw_X12_readThing_54, xw_X12_readThing_64, xw_X12_readThing_91, xw_X12_readThing_101, xw_X12_readThing_131, zw_lit, xB_c, xB_s, xB_n, i1_c, j2_c, k1_c, jJ_e, xlg, xls, xla, xpd, ppush, zw_m1, zw_m2, zw_m3, gf_12_5, gf_12_7, gf_12_11, gf_12_12, gf_12_13, gf_12_14, pf_12_5, pf_12_6, pf_12_11, pf_12_14, tg_12_11, tg_12_12, tg_12_13, tg_12_14, tg_12_5, tg_12_6, tg_12_7, gv_590_5, gv_590_7, gv_590_11, gv_590_12, gv_590_13, gv_590_14, xD1, xD2, xD3, xD4, xD5, xD6, xb1_0, en, c1, e5, e11, h14, q30, q8] at h
        exact bad _ rfl (Or.inr (Or.inl (by omega))) h
      · have h30 : s.2.1 < 30 := by have := hg.2.2.2.1; omega
        have z11 : zw (s.2.1 + 1) = s.2.1 + 1 := zw_lit (by omega) (by omega)
        have hz := nxb_lt (T := T) (z := sz) (a := s.1) (by omega)
        have sz6 := lk.1.2.2.2.2.2
        have z1 : zw (s.1 + 1) = s.1 + 1 := zw_lit (by omega) (by omega)
        have zo : zw (p + 1) = p + 1 := zw_lit (by omega) (by omega)
        have h := call_runP 3 vm_X12_readThing h
        have h := xw_top (hd := []) 11 xD6_ok xc_X12_readThing xa_X12_readThing (t := 0) rfl h
        simp (maxDischargeDepth := 12) -implicitDefEqProofs [vb_X12_readThing_0, vb_X12_readThing_26, vb_X12_readThing_30, vb_X12_readThing_31, vb_X12_readThing_54, vb_X12_readThing_64, vb_X12_readThing_91, vb_X12_readThing_101, vb_X12_readThing_131, xI_0, xI_1, xI_3, xI_7, xI_8, xI_9, xI_14, xI_33, xI_36, xI_37, xI_38, xI_43, xI_44, xI_49, xI_50, xI_52, xI_60, xI_61, xI_62, xw_X12_readThing_0, xw_X12_readThing_26, xw_X12_readThing_30, xw_X12_readThing_31, xw_X12_readThing_54, xw_X12_readThing_64, xw_X12_readThing_91, xw_X12_readThing_101, xw_X12_readThing_131, zw_lit, xB_c, xB_s, xB_n, i1_c, j2_c, k1_c, jJ_e, xlg, xls, xla, xpd, ppush, zw_m1, zw_m2, zw_m3, gf_12_5, gf_12_7, gf_12_11, gf_12_12, gf_12_13, gf_12_14, pf_12_5, pf_12_6, pf_12_11, pf_12_14, tg_12_11, tg_12_12, tg_12_13, tg_12_14, tg_12_5, tg_12_6, tg_12_7, gv_590_5, gv_590_7, gv_590_11, gv_590_12, gv_590_13, gv_590_14, xD1, xD2, xD3, xD4, xD5, xD6, xb1_0, en, c1, e5, e11, h14, q30, q8, z11, xp_at, xp_ne, z1, zo] at h
        have lk2 := LKm_at (LKm_th lk) hz
        have lk3 : LKm sz T (o + 1) (s.1 + 1, s.2.1 + 1, s.2.2) (pup (pup (pup (pup (pup H 590 11 (s.2.1 + 1)) 590 5 (s.1 + 1)) 590 14 (p + 1)) 596 (p + 1) 0) 597 (p + 1) 0) := by
          refine LKm_row (Or.inr rfl) (LKm_row (Or.inl rfl) ?_)
          obtain ⟨a1, a2, a3, a4, a5, a6⟩ := lk2
          exact ⟨TMt_eq a1 (by rw [xp_at, if_neg (by decide)]) (xp_ne (by decide)) (by rw [xp_at, if_neg (by decide)]; exact a1.2.2.1) ⟨a1.2.2.2.1, a1.2.2.2.2.1⟩, by rw [xp_at, if_neg (by decide)]; exact a2, by rw [xp_at, if_neg (by decide)]; exact a3, fun k hk => by rw [xp_ne (by decide)]; exact a4 k hk, by rw [xp_at, if_pos rfl, ep]; rfl, by rw [xp_at, if_neg (by decide)]; exact a6⟩
        have r6 : pup (pup (pup (pup (pup H 590 11 (s.2.1 + 1)) 590 5 (s.1 + 1)) 590 14 (p + 1)) 596 (p + 1) 0) 597 (p + 1) 0 596 = xup (H 596) (p + 1) 0 := by rw [xp_ne (by decide), pupC, xp_ne (by decide), xp_ne (by decide), xp_ne (by decide)]
        have r7 : pup (pup (pup (pup (pup H 590 11 (s.2.1 + 1)) 590 5 (s.1 + 1)) 590 14 (p + 1)) 596 (p + 1) 0) 597 (p + 1) 0 597 = xup (H 597) (p + 1) 0 := by rw [pupC, xp_ne (by decide), xp_ne (by decide), xp_ne (by decide), xp_ne (by decide)]
        have pne : pnF (xup (H 596) (p + 1) 0) (xup (H 597) (p + 1) 0) (o + 1) = pnF (H 596) (H 597) o := by
          show pnF (xup (H 596) (p + 1) 0) (xup (H 597) (p + 1) 0) o + bz (xup (H 596) (p + 1) 0 ((o + 1 : Nat) : Int)) + bz (xup (H 597) (p + 1) 0 ((o + 1 : Nat) : Int)) = _
          rw [show ((o + 1 : Nat) : Int) = p + 1 by omega, xup_a, xup_a, bz_0, pnF_cg o (su := H 596) (pr := H 597) (fun j j0 j1 => ⟨xup_n (by omega), xup_n (by omega)⟩)]
          omega
        refine ⟨_, _, h, MFl_trans (MFl_trans (MFl_trans (MFl_trans (MFl_up (by omega)) (MFl_up (by omega))) (MFl_up (by omega))) (MFl_up (by omega))) (MFl_up (by omega)), Or.inr (Or.inr ⟨rfl, o + 1, _, lk3, ⟨by show 0 ≤ s.1 + 1; omega, by show s.1 + 1 ≤ sz; omega, by show 0 ≤ s.2.1 + 1; omega, by show s.2.1 + 1 ≤ 30; omega, by show (s.2.2.length : Int) ≤ 2 * (s.2.1 + 1); have := hg.2.2.2.2; omega⟩, ?_, by omega, ?_, ?_⟩)⟩
        · rw [r6, r7, pne]
          show (s.2.2.length : Int) + pnF (H 596) (H 597) o ≤ 2 * (s.2.1 + 1)
          omega
        · rw [r6, r7]
          intro j j0 j1
          unfold xup
          by_cases e : j = p + 1
          · rw [if_pos e, if_pos e]
            decide
          · rw [if_neg e, if_neg e]
            exact hb j j0 (by omega)
        · rw [r6, r7, ← hk]
          exact (kE_open (T := T) (z := sz) o (by omega) s h30 (by rw [eb]; exact c1) (fun j j0 j1 => ⟨xup_n (by omega), xup_n (by omega)⟩) (by rw [← ep]; exact xup_a) (by rw [← ep]; exact xup_a)).symm
  by_cases cd : isD (nxF sz T s.1)
  · have cd' := cd
    unfold isD at cd'
    have da := cd'.1
    have db := cd'.2
    have dc : ¬ nxF sz T s.1 < 48 := by omega
    have de : ¬ 57 < nxF sz T s.1 := by omega
    by_cases q30 : s.2.1 = 30
    · have h := call_runP 3 vm_X12_readThing h
      have h := xw_top (hd := []) 11 xD6_ok xc_X12_readThing xa_X12_readThing (t := 0) rfl h
      simp (maxDischargeDepth := 12) -implicitDefEqProofs [vb_X12_readThing_0, vb_X12_readThing_26, vb_X12_readThing_30, vb_X12_readThing_31, vb_X12_readThing_54, vb_X12_readThing_64, vb_X12_readThing_91, vb_X12_readThing_101, vb_X12_readThing_131, xI_0, xI_1, xI_3, xI_7, xI_8, xI_9, xI_14, xI_33, xI_36, xI_37, xI_38, xI_43, xI_44, xI_49, xI_50, xI_52, xI_60, xI_61, xI_62, xw_X12_readThing_0, xw_X12_readThing_26, xw_X12_readThing_30, xw_X12_readThing_31, xw_X12_readThing_54, xw_X12_readThing_64, xw_X12_readThing_91, xw_X12_readThing_101, xw_X12_readThing_131, zw_lit, xB_c, xB_s, xB_n, i1_c, j2_c, k1_c, jJ_e, xlg, xls, xla, xpd, ppush, zw_m1, zw_m2, zw_m3, gf_12_5, gf_12_7, gf_12_11, gf_12_12, gf_12_13, gf_12_14, pf_12_5, pf_12_6, pf_12_11, pf_12_14, tg_12_11, tg_12_12, tg_12_13, tg_12_14, tg_12_5, tg_12_6, tg_12_7, gv_590_5, gv_590_7, gv_590_11, gv_590_12, gv_590_13, gv_590_14, xD1, xD2, xD3, xD4, xD5, xD6, xb1_0, en, da, db, dc, de, e5, e11, h14, q30] at h
      exact bad _ rfl (Or.inl (by omega)) h
    · by_cases q8 : p = 8
      · have h := call_runP 3 vm_X12_readThing h
        have h := xw_top (hd := []) 11 xD6_ok xc_X12_readThing xa_X12_readThing (t := 0) rfl h
        simp (maxDischargeDepth := 12) -implicitDefEqProofs [vb_X12_readThing_0, vb_X12_readThing_26, vb_X12_readThing_30, vb_X12_readThing_31, vb_X12_readThing_54, vb_X12_readThing_64, vb_X12_readThing_91, vb_X12_readThing_101, vb_X12_readThing_131, xI_0, xI_1, xI_3, xI_7, xI_8, xI_9, xI_14, xI_33, xI_36, xI_37, xI_38, xI_43, xI_44, xI_49, xI_50, xI_52, xI_60, xI_61, xI_62, xw_X12_readThing_0, xw_X12_readThing_26, xw_X12_readThing_30, xw_X12_readThing_31, xw_X12_readThing_54, xw_X12_readThing_64, xw_X12_readThing_91, xw_X12_readThing_101, xw_X12_readThing_131, zw_lit, xB_c, xB_s, xB_n, i1_c, j2_c, k1_c, jJ_e, xlg, xls, xla, xpd, ppush, zw_m1, zw_m2, zw_m3, gf_12_5, gf_12_7, gf_12_11, gf_12_12, gf_12_13, gf_12_14, pf_12_5, pf_12_6, pf_12_11, pf_12_14, tg_12_11, tg_12_12, tg_12_13, tg_12_14, tg_12_5, tg_12_6, tg_12_7, gv_590_5, gv_590_7, gv_590_11, gv_590_12, gv_590_13, gv_590_14, xD1, xD2, xD3, xD4, xD5, xD6, xb1_0, en, da, db, dc, de, e5, e11, h14, q30, q8] at h
        exact bad _ rfl (Or.inr (Or.inl (by omega))) h
      · have h30 : s.2.1 < 30 := by have := hg.2.2.2.1; omega
        have z11 : zw (s.2.1 + 1) = s.2.1 + 1 := zw_lit (by omega) (by omega)
        have h := call_runP 3 vm_X12_readThing h
        have h := xw_top (hd := []) 11 xD6_ok xc_X12_readThing xa_X12_readThing (t := 0) rfl h
        simp (maxDischargeDepth := 12) -implicitDefEqProofs [vb_X12_readThing_0, vb_X12_readThing_26, vb_X12_readThing_30, vb_X12_readThing_31, vb_X12_readThing_54, vb_X12_readThing_64, vb_X12_readThing_91, vb_X12_readThing_101, vb_X12_readThing_131, xI_0, xI_1, xI_3, xI_7, xI_8, xI_9, xI_14, xI_33, xI_36, xI_37, xI_38, xI_43, xI_44, xI_49, xI_50, xI_52, xI_60, xI_61, xI_62, xw_X12_readThing_0, xw_X12_readThing_26, xw_X12_readThing_30, xw_X12_readThing_31, xw_X12_readThing_54, xw_X12_readThing_64, xw_X12_readThing_91, xw_X12_readThing_101, xw_X12_readThing_131, zw_lit, xB_c, xB_s, xB_n, i1_c, j2_c, k1_c, jJ_e, xlg, xls, xla, xpd, ppush, zw_m1, zw_m2, zw_m3, gf_12_5, gf_12_7, gf_12_11, gf_12_12, gf_12_13, gf_12_14, pf_12_5, pf_12_6, pf_12_11, pf_12_14, tg_12_11, tg_12_12, tg_12_13, tg_12_14, tg_12_5, tg_12_6, tg_12_7, gv_590_5, gv_590_7, gv_590_11, gv_590_12, gv_590_13, gv_590_14, xD1, xD2, xD3, xD4, xD5, xD6, xb1_0, en, da, db, dc, de, e5, e11, h14, q30, q8, z11] at h
        have lk1 := LKm_th lk
        obtain ⟨r, H1, ⟨pm, g5⟩, g⟩ := xc_use h (sp_X12_readDigits 4 4 sz s.1 T _ rfl (by omega) lk1.1 hT0)
        have one := (kE_one (T := T) (z := sz) (su := H 596) (pr := H 597) o (by omega) s h30).1 (by rw [eb]; exact cd)
        have dg := dgt_dg (w := T) (sz := sz) 4 s.1 0 s0
        have ge := dgF_ge sz T 4 s.1 0
        rw [dg] at one
        have one : kE T sz (H 596) (H 597) o s = if isD (nxb T sz (dgF sz T 4 s.1 0).2) then none else kA T sz (H 596) (H 597) o ((dgF sz T 4 s.1 0).2, s.2.1 + 1, s.2.2 ++ [(dgF sz T 4 s.1 0).1]) := one
        rw [nxb_nx (by omega)] at one
        have mf1 : MFl H H1 := MFl_trans (MFl_up (by omega)) (MFl_P pm)
        rcases g5 with ⟨⟨_, k⟩, rfl, t1, e7, e6⟩ | ⟨k, rfl⟩
        · have ce : ∀ c, ¬ c = 590 → H1 c = H c := fun c hc => by rw [pm.1 c hc, xp_ne hc]
          have lkD : LKm sz T o ((dgF sz T 4 s.1 0).2, s.2.1 + 1, s.2.2) H1 := by
            obtain ⟨a1, a2, a3, a4, a5, a6⟩ := lk1
            exact ⟨t1, by rw [pm.2 10 (by decide) (by decide) (by decide)]; exact a2, by rw [pm.2 11 (by decide) (by decide) (by decide)]; exact a3, fun k hk => by rw [pm.1 595 (by decide)]; exact a4 k hk, by rw [pm.2 14 (by decide) (by decide) (by decide)]; exact a5, by rw [e6]; exact a6⟩
          simp (maxDischargeDepth := 12) -implicitDefEqProofs [vb_X12_readThing_0, vb_X12_readThing_26, vb_X12_readThing_30, vb_X12_readThing_31, vb_X12_readThing_54, vb_X12_readThing_64, vb_X12_readThing_91, vb_X12_readThing_101, vb_X12_readThing_131, xI_0, xI_1, xI_3, xI_7, xI_8, xI_9, xI_14, xI_33, xI_36, xI_37, xI_38, xI_43, xI_44, xI_49, xI_50, xI_52, xI_60, xI_61, xI_62, xw_X12_readThing_0, xw_X12_readThing_26, xw_X12_readThing_30, xw_X12_readThing_31, xw_X12_readThing_54, xw_X12_readThing_64, xw_X12_readThing_91, xw_X12_readThing_101, xw_X12_readThing_131, zw_lit, xB_c, xB_s, xB_n, i1_c, j2_c, k1_c, jJ_e, xlg, xls, xla, xpd, ppush, zw_m1, zw_m2, zw_m3, gf_12_5, gf_12_7, gf_12_11, gf_12_12, gf_12_13, gf_12_14, pf_12_5, pf_12_6, pf_12_11, pf_12_14, tg_12_11, tg_12_12, tg_12_13, tg_12_14, tg_12_5, tg_12_6, tg_12_7, gv_590_5, gv_590_7, gv_590_11, gv_590_12, gv_590_13, gv_590_14, xD1, xD2, xD3, xD4, xD5, xD6, xb1_0, e7] at g
          obtain ⟨r, H2, ⟨rfl, rfl⟩, g⟩ := xc_use g (sp_X12_does _ _)
          have h10 := lkD.2.1
          have ll := hg.2.2.2.2
          have h10' : H1 590 10 = (s.2.2.length : Int) := h10
          rw [zw_lit (x := H1 590 10 + 1) (by omega) (by omega)] at g
          refine ⟨_, _, g, MFl_trans mf1 (MFl_trans (MFl_up (by omega)) (MFl_up (by omega))), Or.inr (Or.inl ⟨rfl, o, _, AST_val hE h30 lkD ⟨by omega, t1.2.2.2.2.1⟩ (ce 596 (by decide)) (ce 597 (by decide)) ?_⟩)⟩
          rw [← hk, one, if_neg k]
        · simp (maxDischargeDepth := 12) -implicitDefEqProofs [vb_X12_readThing_0, vb_X12_readThing_26, vb_X12_readThing_30, vb_X12_readThing_31, vb_X12_readThing_54, vb_X12_readThing_64, vb_X12_readThing_91, vb_X12_readThing_101, vb_X12_readThing_131, xI_0, xI_1, xI_3, xI_7, xI_8, xI_9, xI_14, xI_33, xI_36, xI_37, xI_38, xI_43, xI_44, xI_49, xI_50, xI_52, xI_60, xI_61, xI_62, xw_X12_readThing_0, xw_X12_readThing_26, xw_X12_readThing_30, xw_X12_readThing_31, xw_X12_readThing_54, xw_X12_readThing_64, xw_X12_readThing_91, xw_X12_readThing_101, xw_X12_readThing_131, zw_lit, xB_c, xB_s, xB_n, i1_c, j2_c, k1_c, jJ_e, xlg, xls, xla, xpd, ppush, zw_m1, zw_m2, zw_m3, gf_12_5, gf_12_7, gf_12_11, gf_12_12, gf_12_13, gf_12_14, pf_12_5, pf_12_6, pf_12_11, pf_12_14, tg_12_11, tg_12_12, tg_12_13, tg_12_14, tg_12_5, tg_12_6, tg_12_7, gv_590_5, gv_590_7, gv_590_11, gv_590_12, gv_590_13, gv_590_14, xD1, xD2, xD3, xD4, xD5, xD6, xb1_0] at g
          refine ⟨_, _, g, mf1, Or.inl ⟨rfl, ?_⟩⟩
          rw [← hk, one, if_pos]
          unfold isD
          by_cases w : 48 ≤ nxF sz T (dgF sz T 4 s.1 0).2 ∧ nxF sz T (dgF sz T 4 s.1 0).2 ≤ 57
          · exact w
          · exact (k ⟨⟨da, db⟩, w⟩).elim
  have may : ¬ (nxF sz T s.1 = 40 ∨ isD (nxF sz T s.1) ∨ nxF sz T s.1 = 115 ∨ nxF sz T s.1 = 111 ∨ nxF sz T s.1 = 99) := by
    intro w
    rcases w with w | w | w | w | w
    all_goals contradiction
  have cd' := cd
  unfold isD at cd'
  have c115 : ¬ nxF sz T s.1 = 115 := fun w => may (Or.inr (Or.inr (Or.inl w)))
  have c111 : ¬ nxF sz T s.1 = 111 := fun w => may (Or.inr (Or.inr (Or.inr (Or.inl w))))
  have c99 : ¬ nxF sz T s.1 = 99 := fun w => may (Or.inr (Or.inr (Or.inr (Or.inr w))))
  have c40 : ¬ nxF sz T s.1 = 40 := fun w => may (Or.inl w)
  by_cases da : 48 ≤ nxF sz T s.1
  · have db : ¬ nxF sz T s.1 ≤ 57 := by omega
    have dc : ¬ nxF sz T s.1 < 48 := by omega
    have de : 57 < nxF sz T s.1 := by omega
    have h := call_runP 3 vm_X12_readThing h
    have h := xw_top (hd := []) 11 xD6_ok xc_X12_readThing xa_X12_readThing (t := 0) rfl h
    simp (maxDischargeDepth := 12) -implicitDefEqProofs [vb_X12_readThing_0, vb_X12_readThing_26, vb_X12_readThing_30, vb_X12_readThing_31, vb_X12_readThing_54, vb_X12_readThing_64, vb_X12_readThing_91, vb_X12_readThing_101, vb_X12_readThing_131, xI_0, xI_1, xI_3, xI_7, xI_8, xI_9, xI_14, xI_33, xI_36, xI_37, xI_38, xI_43, xI_44, xI_49, xI_50, xI_52, xI_60, xI_61, xI_62, xw_X12_readThing_0, xw_X12_readThing_26, xw_X12_readThing_30, xw_X12_readThing_31, xw_X12_readThing_54, xw_X12_readThing_64, xw_X12_readThing_91, xw_X12_readThing_101, xw_X12_readThing_131, zw_lit, xB_c, xB_s, xB_n, i1_c, j2_c, k1_c, jJ_e, xlg, xls, xla, xpd, ppush, zw_m1, zw_m2, zw_m3, gf_12_5, gf_12_7, gf_12_11, gf_12_12, gf_12_13, gf_12_14, pf_12_5, pf_12_6, pf_12_11, pf_12_14, tg_12_11, tg_12_12, tg_12_13, tg_12_14, tg_12_5, tg_12_6, tg_12_7, gv_590_5, gv_590_7, gv_590_11, gv_590_12, gv_590_13, gv_590_14, xD1, xD2, xD3, xD4, xD5, xD6, xb1_0, en, c115, c111, c99, c40, da, db, dc, de, e5] at h
    exact bad _ rfl (Or.inr (Or.inr may)) h
  · have dc : nxF sz T s.1 < 48 := by omega
    have h := call_runP 3 vm_X12_readThing h
    have h := xw_top (hd := []) 11 xD6_ok xc_X12_readThing xa_X12_readThing (t := 0) rfl h
    simp (maxDischargeDepth := 12) -implicitDefEqProofs [vb_X12_readThing_0, vb_X12_readThing_26, vb_X12_readThing_30, vb_X12_readThing_31, vb_X12_readThing_54, vb_X12_readThing_64, vb_X12_readThing_91, vb_X12_readThing_101, vb_X12_readThing_131, xI_0, xI_1, xI_3, xI_7, xI_8, xI_9, xI_14, xI_33, xI_36, xI_37, xI_38, xI_43, xI_44, xI_49, xI_50, xI_52, xI_60, xI_61, xI_62, xw_X12_readThing_0, xw_X12_readThing_26, xw_X12_readThing_30, xw_X12_readThing_31, xw_X12_readThing_54, xw_X12_readThing_64, xw_X12_readThing_91, xw_X12_readThing_101, xw_X12_readThing_131, zw_lit, xB_c, xB_s, xB_n, i1_c, j2_c, k1_c, jJ_e, xlg, xls, xla, xpd, ppush, zw_m1, zw_m2, zw_m3, gf_12_5, gf_12_7, gf_12_11, gf_12_12, gf_12_13, gf_12_14, pf_12_5, pf_12_6, pf_12_11, pf_12_14, tg_12_11, tg_12_12, tg_12_13, tg_12_14, tg_12_5, tg_12_6, tg_12_7, gv_590_5, gv_590_7, gv_590_11, gv_590_12, gv_590_13, gv_590_14, xD1, xD2, xD3, xD4, xD5, xD6, xb1_0, en, c115, c111, c99, c40, da, dc, e5] at h
    exact bad _ rfl (Or.inr (Or.inr may)) h
