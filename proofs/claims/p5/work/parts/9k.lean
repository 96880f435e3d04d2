/-! the model's items -/
theorem tlN_iff {sz : Int} {w : Int → Int} {p r : Int} {B B2 : Int → Int} {x : Int} (hb : 0 ≤ B 0 ∧ B 0 < 12) (hx : x = 92 + 26 * B 0) (h0 : ∀ j, j < x → B2 j = B j) (h1 : B2 x = r) (h2 : ∀ i, 0 ≤ i → i < r → B2 (x + 1 + i) = nxF sz w (p + i)) (h3 : ∀ b, 0 ≤ b → b < B 0 → 0 ≤ B (92 + 26 * b) ∧ B (92 + 26 * b) ≤ 8) : tlN B2 x (B 0) ↔ ¬ tldP sz w B p r := by
  unfold tlN tldP smA
  constructor
  · rintro h ⟨b, b0, b1, e, g⟩
    refine h b b0 b1 ⟨?_, fun i i0 i1 => ?_⟩
    · rw [h1, h0 _ (by omega), e]
    · rw [h1] at i1
      have := h3 b b0 b1
      rw [h2 i i0 i1, h0 _ (by omega), g i i0 i1]
  · rintro h b b0 b1 ⟨e, g⟩
    rw [h1] at e g
    have e' : B (92 + 26 * b) = r := by rw [← h0 _ (by omega)]; exact e.symm
    refine h ⟨b, b0, b1, e', fun i i0 i1 => ?_⟩
    have := h3 b b0 b1
    rw [← h2 i i0 i1, g i i0 i1, h0 _ (by omega)]
theorem blR_eq {sz : Int} {w : Int → Int} {a : Int} {B B2 : Int → Int} {x : Int} (hb : 0 ≤ B 0 ∧ B 0 < 12) (hx : x = 92 + 26 * B 0) (hr : 1 ≤ b1F sz w a ∧ b1F sz w a ≤ 8) (hR : RMk sz w (a + 1) x (b1F sz w a) (zrR B x 26) B2) (hl : B2 x = b1F sz w a) : xup (xup (xup B2 (x + 9) (b3F sz w a).1) (x + 10) (b4F sz w a).1) 0 (B 0 + 1) = blR sz w a B := by
  funext j
  unfold xup blR
  rw [← hx]
  by_cases e0 : j = 0
  · rw [if_pos e0, if_pos e0]
  · rw [if_neg e0, if_neg e0]
    by_cases c : x ≤ j ∧ j < x + 26
    · rw [if_pos c]
      by_cases e1 : j = x + 10
      · rw [if_pos e1, if_neg (by omega), if_neg (by omega), if_neg (by omega), if_pos e1]
      · rw [if_neg e1]
        by_cases e2 : j = x + 9
        · rw [if_pos e2, if_neg (by omega), if_neg (by omega), if_pos e2]
        · rw [if_neg e2, if_neg e2, if_neg e1]
          by_cases e3 : j = x
          · rw [if_pos e3, e3, hl]
          · rw [if_neg e3]
            by_cases e4 : j < x + 1 + b1F sz w a
            · rw [if_pos e4]
              have := hR.1 (j - x - 1) (by omega) (by omega)
              rw [show x + 1 + (j - x - 1) = j by omega] at this
              rw [this]
              congr 1
              omega
            · rw [if_neg e4, hR.2 j (by omega) e3]
              exact if_pos c
    · rw [if_neg c, if_neg (by omega), if_neg (by omega), hR.2 j (by omega) (by omega)]
      exact if_neg c
set_option maxRecDepth 100000 in
theorem sp_X12_readBill (bg : Int) (sz a : Int) (w : Int → Int) (B : Int → Int) (H : PH) (hT : TMt sz w a H) (ha : a < sz) (hw : ∀ i, 0 ≤ i → i < sz → 0 ≤ w i ∧ w i ≤ 255) (hR : H 591 = B) (hB : MB B) : SPEC 177 [(2, 590), (0, bg)] H (fun r H' => PQ H H' ∧ ((blK sz w a B ∧ r = some (0, 1) ∧ TMt sz w (blE sz w a) H' ∧ H' 591 = blR sz w a B) ∨ (¬ blK sz w a B ∧ r = some (0, 0)))) := by
  intro E n res h
  have hB0 := hB.1
  have e2 := hT.2.2.1
  by_cases n12 : B 0 = 12
  · have h := call_runP 6 vm_X12_readBill h
    have h := xw_top (hd := [43, 66, 85, 131]) 14 xD6_ok xc_X12_readBill xa_X12_readBill (t := 0) rfl h
    simp (maxDischargeDepth := 12) -implicitDefEqProofs [vb_X12_readBill_0, vb_X12_readBill_19, vb_X12_readBill_43, vb_X12_readBill_66, vb_X12_readBill_82, vb_X12_readBill_85, vb_X12_readBill_125, vb_X12_readBill_131, vb_X12_readBill_148, vb_X12_readBill_150, vb_X12_readBill_180, vb_X12_readBill_182, xI_0, xI_1, xI_3, xI_6, xI_7, xI_8, xI_14, xI_33, xI_36, xI_37, xI_38, xI_44, xI_46, xI_49, xI_50, xI_51, xI_52, xI_60, xI_61, xI_62, xw_X12_readBill_0, xw_X12_readBill_19, xw_X12_readBill_43, xw_X12_readBill_66, xw_X12_readBill_82, xw_X12_readBill_85, xw_X12_readBill_125, xw_X12_readBill_131, xw_X12_readBill_148, xw_X12_readBill_150, xw_X12_readBill_180, xw_X12_readBill_182, zw_lit, xB_c, xB_s, xB_n, i1_c, j2_c, k1_c, jJ_e, xlg, xls, xla, xpd, ppush, zw_m1, zw_m2, zw_m3, gf_12_0, gf_12_5, gf_12_7, pf_12_5, tg_12_0, tg_12_5, tg_12_7, gv_590_0, gv_590_5, gv_590_7, xD1, xD2, xD3, xD4, xD5, xD6, xb1_0, hR, n12] at h
    obtain ⟨r, H2, ⟨rfl, rfl⟩, h⟩ := xc_use h (sp_X12_fails bg H)
    simp (maxDischargeDepth := 12) -implicitDefEqProofs [vb_X12_readBill_0, vb_X12_readBill_19, vb_X12_readBill_43, vb_X12_readBill_66, vb_X12_readBill_82, vb_X12_readBill_85, vb_X12_readBill_125, vb_X12_readBill_131, vb_X12_readBill_148, vb_X12_readBill_150, vb_X12_readBill_180, vb_X12_readBill_182, xI_0, xI_1, xI_3, xI_6, xI_7, xI_8, xI_14, xI_33, xI_36, xI_37, xI_38, xI_44, xI_46, xI_49, xI_50, xI_51, xI_52, xI_60, xI_61, xI_62, xw_X12_readBill_0, xw_X12_readBill_19, xw_X12_readBill_43, xw_X12_readBill_66, xw_X12_readBill_82, xw_X12_readBill_85, xw_X12_readBill_125, xw_X12_readBill_131, xw_X12_readBill_148, xw_X12_readBill_150, xw_X12_readBill_180, xw_X12_readBill_182, zw_lit, xB_c, xB_s, xB_n, i1_c, j2_c, k1_c, jJ_e, xlg, xls, xla, xpd, ppush, zw_m1, zw_m2, zw_m3, gf_12_0, gf_12_5, gf_12_7, pf_12_5, tg_12_0, tg_12_5, tg_12_7, gv_590_0, gv_590_5, gv_590_7, xD1, xD2, xD3, xD4, xD5, xD6, xb1_0] at h
    exact ⟨_, _, h, PQ_up (Or.inr (Or.inl rfl)), Or.inr ⟨fun k => k.1 n12, rfl⟩⟩
  · obtain ⟨x, hx⟩ : ∃ x, x = 92 + 26 * B 0 := ⟨_, rfl⟩
    have z1 : zw (a + 1) = a + 1 := zw_lit (by have := hT.2.2; omega) (by have := hT.2.2; omega)
    have z3 : zw (26 * B 0) = 26 * B 0 := zw_lit (by omega) (by omega)
    have z4 : zw (92 + 26 * B 0) = x := by rw [zw_lit (by omega) (by omega), hx]
    have z6 : zw x = x := zw_lit (by omega) (by omega)
    have z7 : zw (x + 1) = x + 1 := zw_lit (by omega) (by omega)
    have z9 : zw (x + 9) = x + 9 := zw_lit (by omega) (by omega)
    have z10 : zw (x + 10) = x + 10 := zw_lit (by omega) (by omega)
    have zb : zw (B 0 + 1) = B 0 + 1 := zw_lit (by omega) (by omega)
    have h := call_runP 6 vm_X12_readBill h
    have h := xw_top (hd := [43, 66, 85, 131]) 14 xD6_ok xc_X12_readBill xa_X12_readBill (t := 0) rfl h
    simp (maxDischargeDepth := 12) -implicitDefEqProofs [vb_X12_readBill_0, vb_X12_readBill_19, vb_X12_readBill_43, vb_X12_readBill_66, vb_X12_readBill_82, vb_X12_readBill_85, vb_X12_readBill_125, vb_X12_readBill_131, vb_X12_readBill_148, vb_X12_readBill_150, vb_X12_readBill_180, vb_X12_readBill_182, xI_0, xI_1, xI_3, xI_6, xI_7, xI_8, xI_14, xI_33, xI_36, xI_37, xI_38, xI_44, xI_46, xI_49, xI_50, xI_51, xI_52, xI_60, xI_61, xI_62, xw_X12_readBill_0, xw_X12_readBill_19, xw_X12_readBill_43, xw_X12_readBill_66, xw_X12_readBill_82, xw_X12_readBill_85, xw_X12_readBill_125, xw_X12_readBill_131, xw_X12_readBill_148, xw_X12_readBill_150, xw_X12_readBill_180, xw_X12_readBill_182, zw_lit, xB_c, xB_s, xB_n, i1_c, j2_c, k1_c, jJ_e, xlg, xls, xla, xpd, ppush, zw_m1, zw_m2, zw_m3, gf_12_0, gf_12_5, gf_12_7, pf_12_5, tg_12_0, tg_12_5, tg_12_7, gv_590_0, gv_590_5, gv_590_7, xD1, xD2, xD3, xD4, xD5, xD6, xb1_0, hR, n12, z1, z3, z4, e2, xp_at] at h
    obtain ⟨m, hm, h⟩ := h
    obtain ⟨H1, p1, t1, r1, h⟩ := lp_rb0 (B 0) x (a + 1) (by omega) bg B sz (a + 1) w m 0 _ (by omega) (by omega) (TMt_up hT ha) (by
      rw [xp_ne (by decide), hR]
      funext j
      unfold zrR
      rw [if_neg (by omega)]) h
    have p1 := PQ_trans (PQ_up (Or.inl rfl)) p1
    obtain ⟨m1, hm1, h⟩ := h
    have h := xw_top (hd := [85, 131]) 14 xD6_ok xc_X12_readBill xa_X12_readBill (t := 66) rfl h
    simp (maxDischargeDepth := 12) -implicitDefEqProofs [vb_X12_readBill_0, vb_X12_readBill_19, vb_X12_readBill_43, vb_X12_readBill_66, vb_X12_readBill_82, vb_X12_readBill_85, vb_X12_readBill_125, vb_X12_readBill_131, vb_X12_readBill_148, vb_X12_readBill_150, vb_X12_readBill_180, vb_X12_readBill_182, xI_0, xI_1, xI_3, xI_6, xI_7, xI_8, xI_14, xI_33, xI_36, xI_37, xI_38, xI_44, xI_46, xI_49, xI_50, xI_51, xI_52, xI_60, xI_61, xI_62, xw_X12_readBill_0, xw_X12_readBill_19, xw_X12_readBill_43, xw_X12_readBill_66, xw_X12_readBill_82, xw_X12_readBill_85, xw_X12_readBill_125, xw_X12_readBill_131, xw_X12_readBill_148, xw_X12_readBill_150, xw_X12_readBill_180, xw_X12_readBill_182, zw_lit, xB_c, xB_s, xB_n, i1_c, j2_c, k1_c, jJ_e, xlg, xls, xla, xpd, ppush, zw_m1, zw_m2, zw_m3, gf_12_0, gf_12_5, gf_12_7, pf_12_5, tg_12_0, tg_12_5, tg_12_7, gv_590_0, gv_590_5, gv_590_7, xD1, xD2, xD3, xD4, xD5, xD6, xb1_0, z6, z7, Int.add_zero] at h
    obtain ⟨r, H2, ⟨p2, g2⟩, h⟩ := xc_use h (sp_X12_readMark 0 x (x + 1) sz (a + 1) w H1 (by omega) rfl t1)
    have p2 := PQ_trans p1 (PQ_N p2)
    rcases g2 with ⟨c2, rfl, t2, r2, l2⟩ | ⟨c2, rfl⟩
    · simp (maxDischargeDepth := 12) -implicitDefEqProofs [vb_X12_readBill_0, vb_X12_readBill_19, vb_X12_readBill_43, vb_X12_readBill_66, vb_X12_readBill_82, vb_X12_readBill_85, vb_X12_readBill_125, vb_X12_readBill_131, vb_X12_readBill_148, vb_X12_readBill_150, vb_X12_readBill_180, vb_X12_readBill_182, xI_0, xI_1, xI_3, xI_6, xI_7, xI_8, xI_14, xI_33, xI_36, xI_37, xI_38, xI_44, xI_46, xI_49, xI_50, xI_51, xI_52, xI_60, xI_61, xI_62, xw_X12_readBill_0, xw_X12_readBill_19, xw_X12_readBill_43, xw_X12_readBill_66, xw_X12_readBill_82, xw_X12_readBill_85, xw_X12_readBill_125, xw_X12_readBill_131, xw_X12_readBill_148, xw_X12_readBill_150, xw_X12_readBill_180, xw_X12_readBill_182, zw_lit, xB_c, xB_s, xB_n, i1_c, j2_c, k1_c, jJ_e, xlg, xls, xla, xpd, ppush, zw_m1, zw_m2, zw_m3, gf_12_0, gf_12_5, gf_12_7, pf_12_5, tg_12_0, tg_12_5, tg_12_7, gv_590_0, gv_590_5, gv_590_7, xD1, xD2, xD3, xD4, xD5, xD6, xb1_0] at h
      obtain ⟨m2, hm2, h⟩ := h
      rw [r1] at r2
      have q0 : ∀ j, j < x → H2 591 j = B j := fun j hj => by
        rw [r2.2 j (by omega) (by omega)]
        exact if_neg (by omega)
      have ti := tlN_iff (sz := sz) (w := w) (p := a + 1) (r := rnF sz w 0 9 (a + 1)) (B := B) (B2 := H2 591) (by omega) hx q0 l2 r2.1 (fun b b0 b1 => hB.2.2.2.1 b b0 (by omega))
      rcases lp_rbt (B 0) x (a + 1) (by omega) hx bg (H2 591) (by rw [l2]; omega) sz _ w m2 0 H2 (by omega) (by omega) t2 rfl (fun j j0 j1 => by omega) h with ⟨nt, H3, p3, h⟩ | ⟨nt, h⟩
      · exact ⟨_, H3, h, PQ_trans p2 p3, Or.inr ⟨fun k => nt (ti.mpr k.2.2.1), rfl⟩⟩
      · have nt := ti.mp nt
        obtain ⟨m3, hm3, h⟩ := h
        have h := xw_top (hd := [131]) 14 xD6_ok xc_X12_readBill xa_X12_readBill (t := 131) rfl h
        simp (maxDischargeDepth := 12) -implicitDefEqProofs [vb_X12_readBill_0, vb_X12_readBill_19, vb_X12_readBill_43, vb_X12_readBill_66, vb_X12_readBill_82, vb_X12_readBill_85, vb_X12_readBill_125, vb_X12_readBill_131, vb_X12_readBill_148, vb_X12_readBill_150, vb_X12_readBill_180, vb_X12_readBill_182, xI_0, xI_1, xI_3, xI_6, xI_7, xI_8, xI_14, xI_33, xI_36, xI_37, xI_38, xI_44, xI_46, xI_49, xI_50, xI_51, xI_52, xI_60, xI_61, xI_62, xw_X12_readBill_0, xw_X12_readBill_19, xw_X12_readBill_43, xw_X12_readBill_66, xw_X12_readBill_82, xw_X12_readBill_85, xw_X12_readBill_125, xw_X12_readBill_131, xw_X12_readBill_148, xw_X12_readBill_150, xw_X12_readBill_180, xw_X12_readBill_182, zw_lit, xB_c, xB_s, xB_n, i1_c, j2_c, k1_c, jJ_e, xlg, xls, xla, xpd, ppush, zw_m1, zw_m2, zw_m3, gf_12_0, gf_12_5, gf_12_7, pf_12_5, tg_12_0, tg_12_5, tg_12_7, gv_590_0, gv_590_5, gv_590_7, xD1, xD2, xD3, xD4, xD5, xD6, xb1_0] at h
        obtain ⟨r, H3, ⟨p3, s3, g3⟩, h⟩ := xc_use h (sp_X12_takes 58 sz _ w H2 t2 (by decide))
        have w3 : H3 591 = H2 591 := p3.1 591 (by decide)
        have p3 := PQ_trans p2 (PQ_M p3)
        rcases g3 with ⟨c3, rfl, t3⟩ | ⟨c3, rfl⟩
        · simp (maxDischargeDepth := 12) -implicitDefEqProofs [vb_X12_readBill_0, vb_X12_readBill_19, vb_X12_readBill_43, vb_X12_readBill_66, vb_X12_readBill_82, vb_X12_readBill_85, vb_X12_readBill_125, vb_X12_readBill_131, vb_X12_readBill_148, vb_X12_readBill_150, vb_X12_readBill_180, vb_X12_readBill_182, xI_0, xI_1, xI_3, xI_6, xI_7, xI_8, xI_14, xI_33, xI_36, xI_37, xI_38, xI_44, xI_46, xI_49, xI_50, xI_51, xI_52, xI_60, xI_61, xI_62, xw_X12_readBill_0, xw_X12_readBill_19, xw_X12_readBill_43, xw_X12_readBill_66, xw_X12_readBill_82, xw_X12_readBill_85, xw_X12_readBill_125, xw_X12_readBill_131, xw_X12_readBill_148, xw_X12_readBill_150, xw_X12_readBill_180, xw_X12_readBill_182, zw_lit, xB_c, xB_s, xB_n, i1_c, j2_c, k1_c, jJ_e, xlg, xls, xla, xpd, ppush, zw_m1, zw_m2, zw_m3, gf_12_0, gf_12_5, gf_12_7, pf_12_5, tg_12_0, tg_12_5, tg_12_7, gv_590_0, gv_590_5, gv_590_7, xD1, xD2, xD3, xD4, xD5, xD6, xb1_0] at h
          obtain ⟨r, H4, ⟨p4, g4⟩, h⟩ := xc_use h (sp_X12_readCount 3 3 sz _ w H3 rfl (by decide) t3 hw)
          have w4 : H4 591 = H2 591 := (p4.1 591 (by decide)).trans w3
          have p4 := PQ_trans p3 (PQ_M p4)
          rcases g4 with ⟨c4, rfl, t4, n4⟩ | ⟨c4, rfl⟩
          · simp (maxDischargeDepth := 12) -implicitDefEqProofs [vb_X12_readBill_0, vb_X12_readBill_19, vb_X12_readBill_43, vb_X12_readBill_66, vb_X12_readBill_82, vb_X12_readBill_85, vb_X12_readBill_125, vb_X12_readBill_131, vb_X12_readBill_148, vb_X12_readBill_150, vb_X12_readBill_180, vb_X12_readBill_182, xI_0, xI_1, xI_3, xI_6, xI_7, xI_8, xI_14, xI_33, xI_36, xI_37, xI_38, xI_44, xI_46, xI_49, xI_50, xI_51, xI_52, xI_60, xI_61, xI_62, xw_X12_readBill_0, xw_X12_readBill_19, xw_X12_readBill_43, xw_X12_readBill_66, xw_X12_readBill_82, xw_X12_readBill_85, xw_X12_readBill_125, xw_X12_readBill_131, xw_X12_readBill_148, xw_X12_readBill_150, xw_X12_readBill_180, xw_X12_readBill_182, zw_lit, xB_c, xB_s, xB_n, i1_c, j2_c, k1_c, jJ_e, xlg, xls, xla, xpd, ppush, zw_m1, zw_m2, zw_m3, gf_12_0, gf_12_5, gf_12_7, pf_12_5, tg_12_0, tg_12_5, tg_12_7, gv_590_0, gv_590_5, gv_590_7, xD1, xD2, xD3, xD4, xD5, xD6, xb1_0, z9, n4] at h
            obtain ⟨r, H5, ⟨p5, s5, g5⟩, h⟩ := xc_use h (sp_X12_takes 42 sz _ w _ (TMt_row t4) (by decide))
            have w5 : H5 591 = xup (H2 591) (x + 9) (b3F sz w a).1 := by
              rw [p5.1 591 (by decide), pupR, w4]
              rfl
            have p5 := PQ_trans (PQ_trans p4 PQ_row) (PQ_M p5)
            rcases g5 with ⟨c5, rfl, t5⟩ | ⟨c5, rfl⟩
            · simp (maxDischargeDepth := 12) -implicitDefEqProofs [vb_X12_readBill_0, vb_X12_readBill_19, vb_X12_readBill_43, vb_X12_readBill_66, vb_X12_readBill_82, vb_X12_readBill_85, vb_X12_readBill_125, vb_X12_readBill_131, vb_X12_readBill_148, vb_X12_readBill_150, vb_X12_readBill_180, vb_X12_readBill_182, xI_0, xI_1, xI_3, xI_6, xI_7, xI_8, xI_14, xI_33, xI_36, xI_37, xI_38, xI_44, xI_46, xI_49, xI_50, xI_51, xI_52, xI_60, xI_61, xI_62, xw_X12_readBill_0, xw_X12_readBill_19, xw_X12_readBill_43, xw_X12_readBill_66, xw_X12_readBill_82, xw_X12_readBill_85, xw_X12_readBill_125, xw_X12_readBill_131, xw_X12_readBill_148, xw_X12_readBill_150, xw_X12_readBill_180, xw_X12_readBill_182, zw_lit, xB_c, xB_s, xB_n, i1_c, j2_c, k1_c, jJ_e, xlg, xls, xla, xpd, ppush, zw_m1, zw_m2, zw_m3, gf_12_0, gf_12_5, gf_12_7, pf_12_5, tg_12_0, tg_12_5, tg_12_7, gv_590_0, gv_590_5, gv_590_7, xD1, xD2, xD3, xD4, xD5, xD6, xb1_0] at h
              obtain ⟨r, H6, ⟨p6, g6⟩, h⟩ := xc_use h (sp_X12_readCount 4 4 sz _ w H5 rfl (by decide) t5 hw)
              have w6 : H6 591 = xup (H2 591) (x + 9) (b3F sz w a).1 := (p6.1 591 (by decide)).trans w5
              have p6 := PQ_trans p5 (PQ_M p6)
              rcases g6 with ⟨c6, rfl, t6, n6⟩ | ⟨c6, rfl⟩
              · simp (maxDischargeDepth := 12) -implicitDefEqProofs [vb_X12_readBill_0, vb_X12_readBill_19, vb_X12_readBill_43, vb_X12_readBill_66, vb_X12_readBill_82, vb_X12_readBill_85, vb_X12_readBill_125, vb_X12_readBill_131, vb_X12_readBill_148, vb_X12_readBill_150, vb_X12_readBill_180, vb_X12_readBill_182, xI_0, xI_1, xI_3, xI_6, xI_7, xI_8, xI_14, xI_33, xI_36, xI_37, xI_38, xI_44, xI_46, xI_49, xI_50, xI_51, xI_52, xI_60, xI_61, xI_62, xw_X12_readBill_0, xw_X12_readBill_19, xw_X12_readBill_43, xw_X12_readBill_66, xw_X12_readBill_82, xw_X12_readBill_85, xw_X12_readBill_125, xw_X12_readBill_131, xw_X12_readBill_148, xw_X12_readBill_150, xw_X12_readBill_180, xw_X12_readBill_182, zw_lit, xB_c, xB_s, xB_n, i1_c, j2_c, k1_c, jJ_e, xlg, xls, xla, xpd, ppush, zw_m1, zw_m2, zw_m3, gf_12_0, gf_12_5, gf_12_7, pf_12_5, tg_12_0, tg_12_5, tg_12_7, gv_590_0, gv_590_5, gv_590_7, xD1, xD2, xD3, xD4, xD5, xD6, xb1_0, z10, n6, zb] at h
                obtain ⟨r, H7, ⟨p7, s7, g7⟩, h⟩ := xc_use h (sp_X12_takes 59 sz _ w _ (TMt_row (TMt_row t6)) (by decide))
                have w7 : H7 591 = blR sz w a B := by
                  rw [p7.1 591 (by decide), pupR, pupR, w6]
                  exact blR_eq (by omega) hx c2 r2 l2
                have p7 := PQ_trans (PQ_trans (PQ_trans p6 PQ_row) PQ_row) (PQ_M p7)
                rcases g7 with ⟨c7, rfl, t7⟩ | ⟨c7, rfl⟩
                · simp (maxDischargeDepth := 12) -implicitDefEqProofs [vb_X12_readBill_0, vb_X12_readBill_19, vb_X12_readBill_43, vb_X12_readBill_66, vb_X12_readBill_82, vb_X12_readBill_85, vb_X12_readBill_125, vb_X12_readBill_131, vb_X12_readBill_148, vb_X12_readBill_150, vb_X12_readBill_180, vb_X12_readBill_182, xI_0, xI_1, xI_3, xI_6, xI_7, xI_8, xI_14, xI_33, xI_36, xI_37, xI_38, xI_44, xI_46, xI_49, xI_50, xI_51, xI_52, xI_60, xI_61, xI_62, xw_X12_readBill_0, xw_X12_readBill_19, xw_X12_readBill_43, xw_X12_readBill_66, xw_X12_readBill_82, xw_X12_readBill_85, xw_X12_readBill_125, xw_X12_readBill_131, xw_X12_readBill_148, xw_X12_readBill_150, xw_X12_readBill_180, xw_X12_readBill_182, zw_lit, xB_c, xB_s, xB_n, i1_c, j2_c, k1_c, jJ_e, xlg, xls, xla, xpd, ppush, zw_m1, zw_m2, zw_m3, gf_12_0, gf_12_5, gf_12_7, pf_12_5, tg_12_0, tg_12_5, tg_12_7, gv_590_0, gv_590_5, gv_590_7, xD1, xD2, xD3, xD4, xD5, xD6, xb1_0] at h
                  exact ⟨_, H7, h, p7, Or.inl ⟨⟨n12, c2, nt, c3, c4.1, c5, c6.1, c7⟩, rfl, t7, w7⟩⟩
                · simp (maxDischargeDepth := 12) -implicitDefEqProofs [vb_X12_readBill_0, vb_X12_readBill_19, vb_X12_readBill_43, vb_X12_readBill_66, vb_X12_readBill_82, vb_X12_readBill_85, vb_X12_readBill_125, vb_X12_readBill_131, vb_X12_readBill_148, vb_X12_readBill_150, vb_X12_readBill_180, vb_X12_readBill_182, xI_0, xI_1, xI_3, xI_6, xI_7, xI_8, xI_14, xI_33, xI_36, xI_37, xI_38, xI_44, xI_46, xI_49, xI_50, xI_51, xI_52, xI_60, xI_61, xI_62, xw_X12_readBill_0, xw_X12_readBill_19, xw_X12_readBill_43, xw_X12_readBill_66, xw_X12_readBill_82, xw_X12_readBill_85, xw_X12_readBill_125, xw_X12_readBill_131, xw_X12_readBill_148, xw_X12_readBill_150, xw_X12_readBill_180, xw_X12_readBill_182, zw_lit, xB_c, xB_s, xB_n, i1_c, j2_c, k1_c, jJ_e, xlg, xls, xla, xpd, ppush, zw_m1, zw_m2, zw_m3, gf_12_0, gf_12_5, gf_12_7, pf_12_5, tg_12_0, tg_12_5, tg_12_7, gv_590_0, gv_590_5, gv_590_7, xD1, xD2, xD3, xD4, xD5, xD6, xb1_0] at h
                  exact ⟨_, H7, h, p7, Or.inr ⟨fun k => c7 k.2.2.2.2.2.2.2, rfl⟩⟩
              · simp (maxDischargeDepth := 12) -implicitDefEqProofs [vb_X12_readBill_0, vb_X12_readBill_19, vb_X12_readBill_43, vb_X12_readBill_66, vb_X12_readBill_82, vb_X12_readBill_85, vb_X12_readBill_125, vb_X12_readBill_131, vb_X12_readBill_148, vb_X12_readBill_150, vb_X12_readBill_180, vb_X12_readBill_182, xI_0, xI_1, xI_3, xI_6, xI_7, xI_8, xI_14, xI_33, xI_36, xI_37, xI_38, xI_44, xI_46, xI_49, xI_50, xI_51, xI_52, xI_60, xI_61, xI_62, xw_X12_readBill_0, xw_X12_readBill_19, xw_X12_readBill_43, xw_X12_readBill_66, xw_X12_readBill_82, xw_X12_readBill_85, xw_X12_readBill_125, xw_X12_readBill_131, xw_X12_readBill_148, xw_X12_readBill_150, xw_X12_readBill_180, xw_X12_readBill_182, zw_lit, xB_c, xB_s, xB_n, i1_c, j2_c, k1_c, jJ_e, xlg, xls, xla, xpd, ppush, zw_m1, zw_m2, zw_m3, gf_12_0, gf_12_5, gf_12_7, pf_12_5, tg_12_0, tg_12_5, tg_12_7, gv_590_0, gv_590_5, gv_590_7, xD1, xD2, xD3, xD4, xD5, xD6, xb1_0] at h
                exact ⟨_, H6, h, p6, Or.inr ⟨fun k => c6 ⟨k.2.2.2.2.2.2.1, fun d => by
                  have : nxF sz w (b4F sz w a).2 = 59 := k.2.2.2.2.2.2.2
                  unfold b4F b3F b2F b1F at this
                  omega⟩, rfl⟩⟩
            · simp (maxDischargeDepth := 12) -implicitDefEqProofs [vb_X12_readBill_0, vb_X12_readBill_19, vb_X12_readBill_43, vb_X12_readBill_66, vb_X12_readBill_82, vb_X12_readBill_85, vb_X12_readBill_125, vb_X12_readBill_131, vb_X12_readBill_148, vb_X12_readBill_150, vb_X12_readBill_180, vb_X12_readBill_182, xI_0, xI_1, xI_3, xI_6, xI_7, xI_8, xI_14, xI_33, xI_36, xI_37, xI_38, xI_44, xI_46, xI_49, xI_50, xI_51, xI_52, xI_60, xI_61, xI_62, xw_X12_readBill_0, xw_X12_readBill_19, xw_X12_readBill_43, xw_X12_readBill_66, xw_X12_readBill_82, xw_X12_readBill_85, xw_X12_readBill_125, xw_X12_readBill_131, xw_X12_readBill_148, xw_X12_readBill_150, xw_X12_readBill_180, xw_X12_readBill_182, zw_lit, xB_c, xB_s, xB_n, i1_c, j2_c, k1_c, jJ_e, xlg, xls, xla, xpd, ppush, zw_m1, zw_m2, zw_m3, gf_12_0, gf_12_5, gf_12_7, pf_12_5, tg_12_0, tg_12_5, tg_12_7, gv_590_0, gv_590_5, gv_590_7, xD1, xD2, xD3, xD4, xD5, xD6, xb1_0] at h
              exact ⟨_, H5, h, p5, Or.inr ⟨fun k => c5 k.2.2.2.2.2.1, rfl⟩⟩
          · simp (maxDischargeDepth := 12) -implicitDefEqProofs [vb_X12_readBill_0, vb_X12_readBill_19, vb_X12_readBill_43, vb_X12_readBill_66, vb_X12_readBill_82, vb_X12_readBill_85, vb_X12_readBill_125, vb_X12_readBill_131, vb_X12_readBill_148, vb_X12_readBill_150, vb_X12_readBill_180, vb_X12_readBill_182, xI_0, xI_1, xI_3, xI_6, xI_7, xI_8, xI_14, xI_33, xI_36, xI_37, xI_38, xI_44, xI_46, xI_49, xI_50, xI_51, xI_52, xI_60, xI_61, xI_62, xw_X12_readBill_0, xw_X12_readBill_19, xw_X12_readBill_43, xw_X12_readBill_66, xw_X12_readBill_82, xw_X12_readBill_85, xw_X12_readBill_125, xw_X12_readBill_131, xw_X12_readBill_148, xw_X12_readBill_150, xw_X12_readBill_180, xw_X12_readBill_182, zw_lit, xB_c, xB_s, xB_n, i1_c, j2_c, k1_c, jJ_e, xlg, xls, xla, xpd, ppush, zw_m1, zw_m2, zw_m3, gf_12_0, gf_12_5, gf_12_7, pf_12_5, tg_12_0, tg_12_5, tg_12_7, gv_590_0, gv_590_5, gv_590_7, xD1, xD2, xD3, xD4, xD5, xD6, xb1_0] at h
            exact ⟨_, H4, h, p4, Or.inr ⟨fun k => c4 ⟨k.2.2.2.2.1, fun d => by
              have : nxF sz w (b3F sz w a).2 = 42 := k.2.2.2.2.2.1
              unfold b3F b2F b1F at this
              omega⟩, rfl⟩⟩
        · simp (maxDischargeDepth := 12) -implicitDefEqProofs [vb_X12_readBill_0, vb_X12_readBill_19, vb_X12_readBill_43, vb_X12_readBill_66, vb_X12_readBill_82, vb_X12_readBill_85, vb_X12_readBill_125, vb_X12_readBill_131, vb_X12_readBill_148, vb_X12_readBill_150, vb_X12_readBill_180, vb_X12_readBill_182, xI_0, xI_1, xI_3, xI_6, xI_7, xI_8, xI_14, xI_33, xI_36, xI_37, xI_38, xI_44, xI_46, xI_49, xI_50, xI_51, xI_52, xI_60, xI_61, xI_62, xw_X12_readBill_0, xw_X12_readBill_19, xw_X12_readBill_43, xw_X12_readBill_66, xw_X12_readBill_82, xw_X12_readBill_85, xw_X12_readBill_125, xw_X12_readBill_131, xw_X12_readBill_148, xw_X12_readBill_150, xw_X12_readBill_180, xw_X12_readBill_182, zw_lit, xB_c, xB_s, xB_n, i1_c, j2_c, k1_c, jJ_e, xlg, xls, xla, xpd, ppush, zw_m1, zw_m2, zw_m3, gf_12_0, gf_12_5, gf_12_7, pf_12_5, tg_12_0, tg_12_5, tg_12_7, gv_590_0, gv_590_5, gv_590_7, xD1, xD2, xD3, xD4, xD5, xD6, xb1_0] at h
          exact ⟨_, H3, h, p3, Or.inr ⟨fun k => c3 k.2.2.2.1, rfl⟩⟩
    · simp (maxDischargeDepth := 12) -implicitDefEqProofs [vb_X12_readBill_0, vb_X12_readBill_19, vb_X12_readBill_43, vb_X12_readBill_66, vb_X12_readBill_82, vb_X12_readBill_85, vb_X12_readBill_125, vb_X12_readBill_131, vb_X12_readBill_148, vb_X12_readBill_150, vb_X12_readBill_180, vb_X12_readBill_182, xI_0, xI_1, xI_3, xI_6, xI_7, xI_8, xI_14, xI_33, xI_36, xI_37, xI_38, xI_44, xI_46, xI_49, xI_50, xI_51, xI_52, xI_60, xI_61, xI_62, xw_X12_readBill_0, xw_X12_readBill_19, xw_X12_readBill_43, xw_X12_readBill_66, xw_X12_readBill_82, xw_X12_readBill_85, xw_X12_readBill_125, xw_X12_readBill_131, xw_X12_readBill_148, xw_X12_readBill_150, xw_X12_readBill_180, xw_X12_readBill_182, zw_lit, xB_c, xB_s, xB_n, i1_c, j2_c, k1_c, jJ_e, xlg, xls, xla, xpd, ppush, zw_m1, zw_m2, zw_m3, gf_12_0, gf_12_5, gf_12_7, pf_12_5, tg_12_0, tg_12_5, tg_12_7, gv_590_0, gv_590_5, gv_590_7, xD1, xD2, xD3, xD4, xD5, xD6, xb1_0] at h
      exact ⟨_, H2, h, p2, Or.inr ⟨fun k => c2 k.2.1, rfl⟩⟩
set_option maxRecDepth 100000 in
theorem sp_X12_readCouple (bg : Int) (sz a : Int) (w : Int → Int) (B : Int → Int) (H : PH) (hT : TMt sz w a H) (ha : a < sz) (hR : H 591 = B) (hB : MB B) : SPEC 178 [(2, 590), (0, bg)] H (fun r H' => PQ H H' ∧ ((cpK sz w a B ∧ r = some (0, 1) ∧ TMt sz w (a + 4) H' ∧ H' 591 = cpR sz w a B) ∨ (¬ cpK sz w a B ∧ r = some (0, 0)))) := by
  intro E n res h
  have hB1 := hB.2.1
  have e2 := hT.2.2.1
  by_cases n8 : B 1 = 8
  · have h := call_runP 5 vm_X12_readCouple h
    have h := xw_top (hd := []) 8 xD6_ok xc_X12_readCouple xa_X12_readCouple (t := 0) rfl h
    simp (maxDischargeDepth := 12) -implicitDefEqProofs [vb_X12_readCouple_0, vb_X12_readCouple_19, vb_X12_readCouple_50, vb_X12_readCouple_83, vb_X12_readCouple_109, vb_X12_readCouple_120, xI_0, xI_1, xI_3, xI_7, xI_8, xI_14, xI_15, xI_16, xI_33, xI_37, xI_38, xI_43, xI_44, xI_49, xI_50, xI_51, xI_52, xI_60, xI_61, xI_62, xw_X12_readCouple_0, xw_X12_readCouple_19, xw_X12_readCouple_50, xw_X12_readCouple_83, xw_X12_readCouple_109, xw_X12_readCouple_120, zw_lit, xB_c, xB_s, xB_n, i1_c, j2_c, k1_c, jJ_e, xlg, xls, xla, xpd, ppush, zw_m1, zw_m2, zw_m3, gf_12_0, gf_12_5, pf_12_5, tg_12_0, tg_12_5, gv_590_0, gv_590_5, xD1, xD2, xD3, xD4, xD5, xD6, xb1_0, hR, n8] at h
    obtain ⟨r, H2, ⟨rfl, rfl⟩, h⟩ := xc_use h (sp_X12_fails bg H)
    simp (maxDischargeDepth := 12) -implicitDefEqProofs [vb_X12_readCouple_0, vb_X12_readCouple_19, vb_X12_readCouple_50, vb_X12_readCouple_83, vb_X12_readCouple_109, vb_X12_readCouple_120, xI_0, xI_1, xI_3, xI_7, xI_8, xI_14, xI_15, xI_16, xI_33, xI_37, xI_38, xI_43, xI_44, xI_49, xI_50, xI_51, xI_52, xI_60, xI_61, xI_62, xw_X12_readCouple_0, xw_X12_readCouple_19, xw_X12_readCouple_50, xw_X12_readCouple_83, xw_X12_readCouple_109, xw_X12_readCouple_120, zw_lit, xB_c, xB_s, xB_n, i1_c, j2_c, k1_c, jJ_e, xlg, xls, xla, xpd, ppush, zw_m1, zw_m2, zw_m3, gf_12_0, gf_12_5, pf_12_5, tg_12_0, tg_12_5, gv_590_0, gv_590_5, xD1, xD2, xD3, xD4, xD5, xD6, xb1_0] at h
    exact ⟨_, _, h, PQ_up (Or.inr (Or.inl rfl)), Or.inr ⟨fun k => k.1 n8, rfl⟩⟩
  · have bd := hT.2.2
    have z1 : zw (a + 1) = a + 1 := zw_lit (by omega) (by omega)
    have z2 : zw (a + 1 + 1) = a + 1 + 1 := zw_lit (by omega) (by omega)
    have z3 : zw (a + 1 + 1 + 1) = a + 1 + 1 + 1 := zw_lit (by omega) (by omega)
    have z4 : zw (a + 1 + 1 + 1 - 2) = a + 1 := by rw [zw_lit (by omega) (by omega)]; omega
    have z5 : zw (2 * B 1) = 2 * B 1 := zw_lit (by omega) (by omega)
    have z6 : zw (76 + 2 * B 1) = 76 + 2 * B 1 := zw_lit (by omega) (by omega)
    have z7 : zw (76 + 2 * B 1 + 1) = 76 + 2 * B 1 + 1 := zw_lit (by omega) (by omega)
    have z8 : zw (B 1 + 1) = B 1 + 1 := zw_lit (by omega) (by omega)
    have t1 := TMt_up hT ha
    have n1 := TMt_he t1
    have r591 : ∀ i v, pup H 590 i v 591 = B := fun i v => by rw [xp_ne (by decide)]; exact hR
    by_cases s1 : sgP (nxF sz w (a + 1))
    · have h1 : a + 1 < sz := nxF_lt (w := w) rfl (by unfold sgP at s1; omega)
      have t2 := TMt_up t1 h1
      have n2 : heV (pup (pup H 590 5 (a + 1)) 590 5 (a + 1 + 1)) = nxF sz w (a + 2) := (TMt_he t2).trans (by rw [show a + 1 + 1 = a + 2 by omega])
      have s1' := s1
      unfold sgP at s1'
      by_cases s2 : sgP (nxF sz w (a + 2))
      · have h2 : a + 1 + 1 < sz := by
          have : a + 2 < sz := nxF_lt (w := w) rfl (by unfold sgP at s2; omega)
          omega
        have t3 := TMt_up t2 h2
        have s2' := s2
        unfold sgP at s2'
        by_cases s3 : nxF sz w (a + 1) = nxF sz w (a + 2)
        · have h := call_runP 5 vm_X12_readCouple h
          have h := xw_top (hd := []) 8 xD6_ok xc_X12_readCouple xa_X12_readCouple (t := 0) rfl h
          simp (maxDischargeDepth := 12) -implicitDefEqProofs [vb_X12_readCouple_0, vb_X12_readCouple_19, vb_X12_readCouple_50, vb_X12_readCouple_83, vb_X12_readCouple_109, vb_X12_readCouple_120, xI_0, xI_1, xI_3, xI_7, xI_8, xI_14, xI_15, xI_16, xI_33, xI_37, xI_38, xI_43, xI_44, xI_49, xI_50, xI_51, xI_52, xI_60, xI_61, xI_62, xw_X12_readCouple_0, xw_X12_readCouple_19, xw_X12_readCouple_50, xw_X12_readCouple_83, xw_X12_readCouple_109, xw_X12_readCouple_120, zw_lit, xB_c, xB_s, xB_n, i1_c, j2_c, k1_c, jJ_e, xlg, xls, xla, xpd, ppush, zw_m1, zw_m2, zw_m3, gf_12_0, gf_12_5, pf_12_5, tg_12_0, tg_12_5, gv_590_0, gv_590_5, xD1, xD2, xD3, xD4, xD5, xD6, hR, n8, z1, z2, z3, z4, e2, n1, n2, xb1_T, xb1_F, s1', s2', s3, xp_at, xp_ne] at h
          obtain ⟨r, H2, ⟨rfl, rfl⟩, h⟩ := xc_use h (sp_X12_fails _ _)
          simp (maxDischargeDepth := 12) -implicitDefEqProofs [vb_X12_readCouple_0, vb_X12_readCouple_19, vb_X12_readCouple_50, vb_X12_readCouple_83, vb_X12_readCouple_109, vb_X12_readCouple_120, xI_0, xI_1, xI_3, xI_7, xI_8, xI_14, xI_15, xI_16, xI_33, xI_37, xI_38, xI_43, xI_44, xI_49, xI_50, xI_51, xI_52, xI_60, xI_61, xI_62, xw_X12_readCouple_0, xw_X12_readCouple_19, xw_X12_readCouple_50, xw_X12_readCouple_83, xw_X12_readCouple_109, xw_X12_readCouple_120, zw_lit, xB_c, xB_s, xB_n, i1_c, j2_c, k1_c, jJ_e, xlg, xls, xla, xpd, ppush, zw_m1, zw_m2, zw_m3, gf_12_0, gf_12_5, pf_12_5, tg_12_0, tg_12_5, gv_590_0, gv_590_5, xD1, xD2, xD3, xD4, xD5, xD6, xb1_0] at h
          exact ⟨_, _, h, PQ_trans (PQ_trans (PQ_trans (PQ_up (Or.inl rfl)) (PQ_up (Or.inl rfl))) (PQ_up (Or.inl rfl))) (PQ_up (Or.inr (Or.inl rfl))), Or.inr ⟨fun k => k.2.2.2.1 s3, rfl⟩⟩
        · by_cases s4 : likA B (nxF sz w (a + 1)) (nxF sz w (a + 2)) = true
          · have h := call_runP 5 vm_X12_readCouple h
            have h := xw_top (hd := []) 8 xD6_ok xc_X12_readCouple xa_X12_readCouple (t := 0) rfl h
            simp (maxDischargeDepth := 12) -implicitDefEqProofs [vb_X12_readCouple_0, vb_X12_readCouple_19, vb_X12_readCouple_50, vb_X12_readCouple_83, vb_X12_readCouple_109, vb_X12_readCouple_120, xI_0, xI_1, xI_3, xI_7, xI_8, xI_14, xI_15, xI_16, xI_33, xI_37, xI_38, xI_43, xI_44, xI_49, xI_50, xI_51, xI_52, xI_60, xI_61, xI_62, xw_X12_readCouple_0, xw_X12_readCouple_19, xw_X12_readCouple_50, xw_X12_readCouple_83, xw_X12_readCouple_109, xw_X12_readCouple_120, zw_lit, xB_c, xB_s, xB_n, i1_c, j2_c, k1_c, jJ_e, xlg, xls, xla, xpd, ppush, zw_m1, zw_m2, zw_m3, gf_12_0, gf_12_5, pf_12_5, tg_12_0, tg_12_5, gv_590_0, gv_590_5, xD1, xD2, xD3, xD4, xD5, xD6, hR, n8, z1, z2, z3, z4, e2, n1, n2, xb1_T, xb1_F, s1', s2', s3, s4, xp_at, xp_ne, r591] at h
            obtain ⟨r, H2, ⟨rfl, rfl⟩, h⟩ := xc_use (h hB1.1 hB1.2) (sp_X12_fails _ _)
            simp (maxDischargeDepth := 12) -implicitDefEqProofs [vb_X12_readCouple_0, vb_X12_readCouple_19, vb_X12_readCouple_50, vb_X12_readCouple_83, vb_X12_readCouple_109, vb_X12_readCouple_120, xI_0, xI_1, xI_3, xI_7, xI_8, xI_14, xI_15, xI_16, xI_33, xI_37, xI_38, xI_43, xI_44, xI_49, xI_50, xI_51, xI_52, xI_60, xI_61, xI_62, xw_X12_readCouple_0, xw_X12_readCouple_19, xw_X12_readCouple_50, xw_X12_readCouple_83, xw_X12_readCouple_109, xw_X12_readCouple_120, zw_lit, xB_c, xB_s, xB_n, i1_c, j2_c, k1_c, jJ_e, xlg, xls, xla, xpd, ppush, zw_m1, zw_m2, zw_m3, gf_12_0, gf_12_5, pf_12_5, tg_12_0, tg_12_5, gv_590_0, gv_590_5, xD1, xD2, xD3, xD4, xD5, xD6, xb1_0] at h
            exact ⟨_, _, h, PQ_trans (PQ_trans (PQ_trans (PQ_up (Or.inl rfl)) (PQ_up (Or.inl rfl))) (PQ_up (Or.inl rfl))) (PQ_up (Or.inr (Or.inl rfl))), Or.inr ⟨fun k => k.2.2.2.2.1 s4, rfl⟩⟩
          · have h := call_runP 5 vm_X12_readCouple h
            have h := xw_top (hd := []) 8 xD6_ok xc_X12_readCouple xa_X12_readCouple (t := 0) rfl h
            simp (maxDischargeDepth := 12) -implicitDefEqProofs [vb_X12_readCouple_0, vb_X12_readCouple_19, vb_X12_readCouple_50, vb_X12_readCouple_83, vb_X12_readCouple_109, vb_X12_readCouple_120, xI_0, xI_1, xI_3, xI_7, xI_8, xI_14, xI_15, xI_16, xI_33, xI_37, xI_38, xI_43, xI_44, xI_49, xI_50, xI_51, xI_52, xI_60, xI_61, xI_62, xw_X12_readCouple_0, xw_X12_readCouple_19, xw_X12_readCouple_50, xw_X12_readCouple_83, xw_X12_readCouple_109, xw_X12_readCouple_120, zw_lit, xB_c, xB_s, xB_n, i1_c, j2_c, k1_c, jJ_e, xlg, xls, xla, xpd, ppush, zw_m1, zw_m2, zw_m3, gf_12_0, gf_12_5, pf_12_5, tg_12_0, tg_12_5, gv_590_0, gv_590_5, xD1, xD2, xD3, xD4, xD5, xD6, hR, n8, z1, z2, z3, z4, z5, z6, z7, z8, e2, n1, n2, xb1_T, xb1_F, s1', s2', s3, s4, xp_at, xp_ne, r591, hB1] at h
            obtain ⟨r, H2, ⟨p2, -, g2⟩, h⟩ := xc_use h (sp_X12_takes 59 sz _ w _ (TMt_row (TMt_row (TMt_row t3))) (by decide))
            have w2 : H2 591 = cpR sz w a B := by
              rw [p2.1 591 (by decide), pupR, pupR, pupR, xp_ne (by decide), xp_ne (by decide), xp_ne (by decide), hR]
              rfl
            have p2 := PQ_trans (PQ_trans (PQ_trans (PQ_trans (PQ_trans (PQ_trans (PQ_up (Or.inl rfl)) (PQ_up (Or.inl rfl))) (PQ_up (Or.inl rfl))) PQ_row) PQ_row) PQ_row) (PQ_M p2)
            rw [show a + 1 + 1 + 1 = a + 3 by omega, show a + 3 + 1 = a + 4 by omega] at g2
            rcases g2 with ⟨c2, rfl, t⟩ | ⟨c2, rfl⟩
            · simp (maxDischargeDepth := 12) -implicitDefEqProofs [vb_X12_readCouple_0, vb_X12_readCouple_19, vb_X12_readCouple_50, vb_X12_readCouple_83, vb_X12_readCouple_109, vb_X12_readCouple_120, xI_0, xI_1, xI_3, xI_7, xI_8, xI_14, xI_15, xI_16, xI_33, xI_37, xI_38, xI_43, xI_44, xI_49, xI_50, xI_51, xI_52, xI_60, xI_61, xI_62, xw_X12_readCouple_0, xw_X12_readCouple_19, xw_X12_readCouple_50, xw_X12_readCouple_83, xw_X12_readCouple_109, xw_X12_readCouple_120, zw_lit, xB_c, xB_s, xB_n, i1_c, j2_c, k1_c, jJ_e, xlg, xls, xla, xpd, ppush, zw_m1, zw_m2, zw_m3, gf_12_0, gf_12_5, pf_12_5, tg_12_0, tg_12_5, gv_590_0, gv_590_5, xD1, xD2, xD3, xD4, xD5, xD6, xb1_0] at h
              exact ⟨_, H2, h, p2, Or.inl ⟨⟨n8, s1, s2, s3, s4, c2⟩, rfl, t, w2⟩⟩
            · simp (maxDischargeDepth := 12) -implicitDefEqProofs [vb_X12_readCouple_0, vb_X12_readCouple_19, vb_X12_readCouple_50, vb_X12_readCouple_83, vb_X12_readCouple_109, vb_X12_readCouple_120, xI_0, xI_1, xI_3, xI_7, xI_8, xI_14, xI_15, xI_16, xI_33, xI_37, xI_38, xI_43, xI_44, xI_49, xI_50, xI_51, xI_52, xI_60, xI_61, xI_62, xw_X12_readCouple_0, xw_X12_readCouple_19, xw_X12_readCouple_50, xw_X12_readCouple_83, xw_X12_readCouple_109, xw_X12_readCouple_120, zw_lit, xB_c, xB_s, xB_n, i1_c, j2_c, k1_c, jJ_e, xlg, xls, xla, xpd, ppush, zw_m1, zw_m2, zw_m3, gf_12_0, gf_12_5, pf_12_5, tg_12_0, tg_12_5, gv_590_0, gv_590_5, xD1, xD2, xD3, xD4, xD5, xD6, xb1_0] at h
              exact ⟨_, H2, h, p2, Or.inr ⟨fun k => c2 k.2.2.2.2.2, rfl⟩⟩
      · have s2' := s2
        unfold sgP at s2'
        have h := call_runP 5 vm_X12_readCouple h
        have h := xw_top (hd := []) 8 xD6_ok xc_X12_readCouple xa_X12_readCouple (t := 0) rfl h
        simp (maxDischargeDepth := 12) -implicitDefEqProofs [vb_X12_readCouple_0, vb_X12_readCouple_19, vb_X12_readCouple_50, vb_X12_readCouple_83, vb_X12_readCouple_109, vb_X12_readCouple_120, xI_0, xI_1, xI_3, xI_7, xI_8, xI_14, xI_15, xI_16, xI_33, xI_37, xI_38, xI_43, xI_44, xI_49, xI_50, xI_51, xI_52, xI_60, xI_61, xI_62, xw_X12_readCouple_0, xw_X12_readCouple_19, xw_X12_readCouple_50, xw_X12_readCouple_83, xw_X12_readCouple_109, xw_X12_readCouple_120, zw_lit, xB_c, xB_s, xB_n, i1_c, j2_c, k1_c, jJ_e, xlg, xls, xla, xpd, ppush, zw_m1, zw_m2, zw_m3, gf_12_0, gf_12_5, pf_12_5, tg_12_0, tg_12_5, gv_590_0, gv_590_5, xD1, xD2, xD3, xD4, xD5, xD6, hR, n8, z1, z2, e2, n1, n2, xb1_T, xb1_F, s1', s2', xp_at, xp_ne] at h
        obtain ⟨r, H2, ⟨rfl, rfl⟩, h⟩ := xc_use h (sp_X12_fails _ _)
        simp (maxDischargeDepth := 12) -implicitDefEqProofs [vb_X12_readCouple_0, vb_X12_readCouple_19, vb_X12_readCouple_50, vb_X12_readCouple_83, vb_X12_readCouple_109, vb_X12_readCouple_120, xI_0, xI_1, xI_3, xI_7, xI_8, xI_14, xI_15, xI_16, xI_33, xI_37, xI_38, xI_43, xI_44, xI_49, xI_50, xI_51, xI_52, xI_60, xI_61, xI_62, xw_X12_readCouple_0, xw_X12_readCouple_19, xw_X12_readCouple_50, xw_X12_readCouple_83, xw_X12_readCouple_109, xw_X12_readCouple_120, zw_lit, xB_c, xB_s, xB_n, i1_c, j2_c, k1_c, jJ_e, xlg, xls, xla, xpd, ppush, zw_m1, zw_m2, zw_m3, gf_12_0, gf_12_5, pf_12_5, tg_12_0, tg_12_5, gv_590_0, gv_590_5, xD1, xD2, xD3, xD4, xD5, xD6, xb1_0] at h
        exact ⟨_, _, h, PQ_trans (PQ_trans (PQ_up (Or.inl rfl)) (PQ_up (Or.inl rfl))) (PQ_up (Or.inr (Or.inl rfl))), Or.inr ⟨fun k => s2 k.2.2.1, rfl⟩⟩
    · have s1' := s1
      unfold sgP at s1'
      have h := call_runP 5 vm_X12_readCouple h
      have h := xw_top (hd := []) 8 xD6_ok xc_X12_readCouple xa_X12_readCouple (t := 0) rfl h
      simp (maxDischargeDepth := 12) -implicitDefEqProofs [vb_X12_readCouple_0, vb_X12_readCouple_19, vb_X12_readCouple_50, vb_X12_readCouple_83, vb_X12_readCouple_109, vb_X12_readCouple_120, xI_0, xI_1, xI_3, xI_7, xI_8, xI_14, xI_15, xI_16, xI_33, xI_37, xI_38, xI_43, xI_44, xI_49, xI_50, xI_51, xI_52, xI_60, xI_61, xI_62, xw_X12_readCouple_0, xw_X12_readCouple_19, xw_X12_readCouple_50, xw_X12_readCouple_83, xw_X12_readCouple_109, xw_X12_readCouple_120, zw_lit, xB_c, xB_s, xB_n, i1_c, j2_c, k1_c, jJ_e, xlg, xls, xla, xpd, ppush, zw_m1, zw_m2, zw_m3, gf_12_0, gf_12_5, pf_12_5, tg_12_0, tg_12_5, gv_590_0, gv_590_5, xD1, xD2, xD3, xD4, xD5, xD6, hR, n8, z1, e2, n1, xb1_T, xb1_F, s1', xp_at, xp_ne] at h
      obtain ⟨r, H2, ⟨rfl, rfl⟩, h⟩ := xc_use h (sp_X12_fails _ _)
      simp (maxDischargeDepth := 12) -implicitDefEqProofs [vb_X12_readCouple_0, vb_X12_readCouple_19, vb_X12_readCouple_50, vb_X12_readCouple_83, vb_X12_readCouple_109, vb_X12_readCouple_120, xI_0, xI_1, xI_3, xI_7, xI_8, xI_14, xI_15, xI_16, xI_33, xI_37, xI_38, xI_43, xI_44, xI_49, xI_50, xI_51, xI_52, xI_60, xI_61, xI_62, xw_X12_readCouple_0, xw_X12_readCouple_19, xw_X12_readCouple_50, xw_X12_readCouple_83, xw_X12_readCouple_109, xw_X12_readCouple_120, zw_lit, xB_c, xB_s, xB_n, i1_c, j2_c, k1_c, jJ_e, xlg, xls, xla, xpd, ppush, zw_m1, zw_m2, zw_m3, gf_12_0, gf_12_5, pf_12_5, tg_12_0, tg_12_5, gv_590_0, gv_590_5, xD1, xD2, xD3, xD4, xD5, xD6, xb1_0] at h
      exact ⟨_, _, h, PQ_trans (PQ_up (Or.inl rfl)) (PQ_up (Or.inr (Or.inl rfl))), Or.inr ⟨fun k => s1 k.2.1, rfl⟩⟩
