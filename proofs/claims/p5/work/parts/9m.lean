/-! rows stay within their bounds -/
theorem dgF_rg {sz : Int} {w : Int → Int} : ∀ (n : Nat) (a v : Int), dB n v → 0 ≤ (dgF sz w n a v).1 ∧ (dgF sz w n a v).1 ≤ 9999
  | 0, a, v, h => ⟨h.2.1, h.2.2.1⟩
  | n + 1, a, v, h => by
    unfold dgF
    split
    · rename_i c
      refine dgF_rg n (a + 1) _ ?_
      unfold dB at h ⊢
      omega
    · exact ⟨h.2.1, h.2.2.1⟩
theorem nxF_rg {sz : Int} {w : Int → Int} (hw : ∀ i, 0 ≤ i → i < sz → 0 ≤ w i ∧ w i ≤ 255) {a : Int} (ha : 0 ≤ a) : -1 ≤ nxF sz w a ∧ nxF sz w a ≤ 255 := by
  unfold nxF
  split
  · have := hw a ha (by assumption)
    omega
  · omega
section MBX
variable {sz : Int} {w : Int → Int} {a : Int} {B : Int → Int}
theorem cpR_1 : cpR sz w a B 1 = B 1 + 1 := by
  unfold cpR xup
  rw [if_pos rfl]
theorem blR_0 : blR sz w a B 0 = B 0 + 1 := if_pos rfl
theorem blR_lo {j : Int} (h0 : ¬ j = 0) (h : j < 92 + 26 * B 0) : blR sz w a B j = B j := by unfold blR; rw [if_neg h0, if_neg (by omega)]
theorem blR_hi {j : Int} (h0 : ¬ j = 0) (h : 92 + 26 * B 0 + 26 ≤ j) : blR sz w a B j = B j := by unfold blR; rw [if_neg h0, if_neg (by omega)]
theorem blR_n {b : Int} (hb : b = B 0) (h : 0 ≤ B 0) : blR sz w a B (92 + 26 * b) = b1F sz w a := by unfold blR; rw [if_neg (by omega), if_pos (by omega), if_pos (by omega)]
theorem blR_s {b i : Int} (hb : b = B 0) (h : 0 ≤ B 0) (h0 : 0 ≤ i) (h1 : i < b1F sz w a) (h8 : b1F sz w a ≤ 8) : blR sz w a B (92 + 26 * b + 1 + i) = nxF sz w (a + 1 + i) := by
  unfold blR
  rw [if_neg (by omega), if_pos (by omega), if_neg (by omega), if_pos (by omega)]
  congr 1
  omega
theorem blR_k {b : Int} (hb : b = B 0) (h : 0 ≤ B 0) (h8 : b1F sz w a ≤ 8) : blR sz w a B (92 + 26 * b + 9) = (b3F sz w a).1 ∧ blR sz w a B (92 + 26 * b + 10) = (b4F sz w a).1 ∧ blR sz w a B (92 + 26 * b + 11) = 0 ∧ blR sz w a B (92 + 26 * b + 12) = 0 ∧ blR sz w a B (92 + 26 * b + 13) = 0 := by
  unfold blR
  refine ⟨?_, ?_, ?_, ?_, ?_⟩
  · rw [if_neg (by omega), if_pos (by omega), if_neg (by omega), if_neg (by omega), if_pos (by omega)]
  · rw [if_neg (by omega), if_pos (by omega), if_neg (by omega), if_neg (by omega), if_neg (by omega), if_pos (by omega)]
  · rw [if_neg (by omega), if_pos (by omega), if_neg (by omega), if_neg (by omega), if_neg (by omega), if_neg (by omega)]
  · rw [if_neg (by omega), if_pos (by omega), if_neg (by omega), if_neg (by omega), if_neg (by omega), if_neg (by omega)]
  · rw [if_neg (by omega), if_pos (by omega), if_neg (by omega), if_neg (by omega), if_neg (by omega), if_neg (by omega)]
theorem MB_bl (hw : ∀ i, 0 ≤ i → i < sz → 0 ≤ w i ∧ w i ≤ 255) (ha : 0 ≤ a) (hB : MB B) (h : blK sz w a B) : MB (blR sz w a B) := by
  obtain ⟨m0, m1, m2, m3, m4, m5, m6⟩ := hB
  have h1 := h.2.1
  have h0 := h.1
  have r3 := dgF_rg (sz := sz) (w := w) 3 (b2F sz w a + 1) 0 (by unfold dB; omega)
  have r4 := dgF_rg (sz := sz) (w := w) 4 ((b3F sz w a).2 + 1) 0 (by unfold dB; omega)
  refine ⟨?_, ?_, ?_, fun b b0 b1 => ?_, fun b b0 b1 => ?_, fun k k0 k1 => ?_, fun i i0 i1 => ?_⟩
  · rw [blR_0]; omega
  · rw [blR_lo (by omega) (by omega)]; exact m1
  · rw [blR_lo (by omega) (by omega)]; exact m2
  · rcases Int.lt_trichotomy b (B 0) with q | q | q
    · rw [blR_lo (by omega) (by omega)]; exact m3 b b0 b1
    · rw [blR_n q (by omega)]; omega
    · rw [blR_hi (by omega) (by omega)]; exact m3 b b0 b1
  · rcases Int.lt_trichotomy b (B 0) with q | q | q
    · rw [blR_lo (by omega) (by omega)]; exact m4 b b0 b1
    · rw [(blR_k q (by omega) h1.2).2.2.2.2]; omega
    · rw [blR_hi (by omega) (by omega)]; exact m4 b b0 b1
  · rw [blR_hi (by omega) (by omega)]; exact m5 k k0 k1
  · have mi := m6 i i0 i1
    unfold blR zIn at *
    have nx : -1 ≤ nxF sz w (a + 1 + (i - 92 - 26 * B 0 - 1)) ∧ nxF sz w (a + 1 + (i - 92 - 26 * B 0 - 1)) ≤ 255 ∨ i ≤ 92 + 26 * B 0 := by
      by_cases q : i ≤ 92 + 26 * B 0
      · exact Or.inr q
      · exact Or.inl (nxF_rg hw (by omega))
    have r3 : 0 ≤ (b3F sz w a).1 ∧ (b3F sz w a).1 ≤ 9999 := r3
    have r4 : 0 ≤ (b4F sz w a).1 ∧ (b4F sz w a).1 ≤ 9999 := r4
    split
    · omega
    · split
      · split
        · omega
        · split
          · omega
          · split
            · omega
            · split
              · omega
              · omega
      · exact mi
theorem MB_cp (hw : ∀ i, 0 ≤ i → i < sz → 0 ≤ w i ∧ w i ≤ 255) (ha : 0 ≤ a) (hB : MB B) (h : cpK sz w a B) : MB (cpR sz w a B) := by
  obtain ⟨m0, m1, m2, m3, m4, m5, m6⟩ := hB
  have h0 := h.1
  have e1 : cpR sz w a B 1 = B 1 + 1 := cpR_1
  have eo : ∀ j, ¬ j = 1 → ¬ (76 ≤ j ∧ j < 92) → cpR sz w a B j = B j := fun j j1 j2 => by
    unfold cpR xup
    rw [if_neg j1, if_neg (by omega), if_neg (by omega)]
  refine ⟨?_, ?_, ?_, fun b b0 b1 => ?_, fun b b0 b1 => ?_, fun k k0 k1 => ?_, fun i i0 i1 => ?_⟩
  · rw [eo 0 (by decide) (by decide)]; exact m0
  · rw [e1]; omega
  · rw [eo 2 (by decide) (by decide)]; exact m2
  · rw [eo _ (by omega) (by omega)]; exact m3 b b0 b1
  · rw [eo _ (by omega) (by omega)]; exact m4 b b0 b1
  · rw [eo _ (by omega) (by omega)]; exact m5 k k0 k1
  · have mi := m6 i i0 i1
    have x := nxF_rg hw (a := a + 1) (by omega)
    have y := nxF_rg hw (a := a + 2) (by omega)
    unfold cpR xup zIn at *
    split
    · omega
    · split
      · omega
      · split
        · omega
        · exact mi
theorem lnR_o {j : Int} (h2 : ¬ j = 2) (h : j < 404 + 12 * B 2 ∨ 404 + 12 * B 2 + 12 ≤ j) (h8 : lnK sz w a B) : lnR sz w a B j = B j := by
  have := h8.2.2.2.2.2.1
  unfold lnR
  rw [if_neg h2, if_neg (by omega), if_neg (by omega), if_neg (by omega), if_neg (by omega), if_neg (by omega)]
theorem lnR_k (hB : MB B) (h : lnK sz w a B) : lnR sz w a B (404 + 12 * B 2) = nxF sz w (a + 1) - 48 ∧ lnR sz w a B (404 + 12 * B 2 + 1) = nxF sz w (a + 3) - 48 ∧ lnR sz w a B (404 + 12 * B 2 + 2) = (l3F sz w a).1 ∧ lnR sz w a B (404 + 12 * B 2 + 3) = l1F sz w a ∧ ∀ i, 0 ≤ i → i < l1F sz w a → lnR sz w a B (404 + 12 * B 2 + 4 + i) = nxF sz w (a + 5 + i) := by
  have m2 := hB.2.2.1
  unfold lnR
  refine ⟨?_, ?_, ?_, ?_, fun i i0 i1 => ?_⟩
  · rw [if_neg (by omega), if_pos rfl]
  · rw [if_neg (by omega), if_neg (by omega), if_pos rfl]
  · rw [if_neg (by omega), if_neg (by omega), if_neg (by omega), if_pos rfl]
  · rw [if_neg (by omega), if_neg (by omega), if_neg (by omega), if_neg (by omega), if_pos rfl]
  · rw [if_neg (by omega), if_neg (by omega), if_neg (by omega), if_neg (by omega), if_neg (by omega), if_pos (by omega)]
    congr 1
    omega
theorem MB_ln (hw : ∀ i, 0 ≤ i → i < sz → 0 ≤ w i ∧ w i ≤ 255) (ha : 0 ≤ a) (hB : MB B) (h : lnK sz w a B) : MB (lnR sz w a B) := by
  have lo := fun j h2 hj => lnR_o (j := j) h2 hj h
  have lk := lnR_k hB h
  obtain ⟨m0, m1, m2, m3, m4, m5, m6⟩ := hB
  have h0 := h.1
  have h8 := h.2.2.2.2.2.1
  refine ⟨?_, ?_, ?_, fun b b0 b1 => ?_, fun b b0 b1 => ?_, fun k k0 k1 => ?_, fun i i0 i1 => ?_⟩
  · rw [lo 0 (by decide) (by omega)]; exact m0
  · rw [lo 1 (by decide) (by omega)]; exact m1
  · rw [show lnR sz w a B 2 = B 2 + 1 from if_pos rfl]; omega
  · rw [lo _ (by omega) (by omega)]; exact m3 b b0 b1
  · rw [lo _ (by omega) (by omega)]; exact m4 b b0 b1
  · by_cases q : k = B 2
    · rw [q, lk.2.2.2.1]; omega
    · rw [lo _ (by omega) (by omega)]; exact m5 k k0 k1
  · have mi := m6 i i0 i1
    have x := nxF_rg hw (a := a + 1) (by omega)
    have y := nxF_rg hw (a := a + 3) (by omega)
    have r3 : 0 ≤ (l3F sz w a).1 ∧ (l3F sz w a).1 ≤ 9999 := dgF_rg 3 _ 0 (by unfold dB; omega)
    by_cases c : i < 404 + 12 * B 2 ∨ 404 + 12 * B 2 + 12 ≤ i
    · by_cases i2 : i = 2
      · rw [i2, show lnR sz w a B 2 = B 2 + 1 from if_pos rfl]
        unfold zIn
        omega
      · rw [lo i i2 c]; exact mi
    · have z := nxF_rg hw (a := a + 5 + (i - 404 - 12 * B 2 - 4))
      unfold lnR zIn at *
      split
      · omega
      · split
        · omega
        · split
          · omega
          · split
            · omega
            · split
              · omega
              · split
                · have := z (by omega)
                  omega
                · exact mi
theorem MB_it (hw : ∀ i, 0 ≤ i → i < sz → 0 ≤ w i ∧ w i ≤ 255) (ha : 0 ≤ a) (hB : MB B) (h : itK sz w a B) : MB (itR sz w a B) := by
  unfold itR
  rcases h with ⟨h0, h⟩ | ⟨h0, h⟩ | ⟨h0, h⟩
  · rw [if_pos h0]; exact MB_bl hw ha hB h
  · rw [if_neg (by omega), if_pos h0]; exact MB_cp hw ha hB h
  · rw [if_neg (by omega), if_neg (by omega)]; exact MB_ln hw ha hB h
end MBX
set_option maxRecDepth 100000 in
theorem lp_rtx (sz : Int) (w : Int → Int) (hw : ∀ i, 0 ≤ i → i < sz → 0 ≤ w i ∧ w i ≤ 255) {E : xE} {res : xR} : ∀ (n : Nat) (a : Int) (B : Int → Int) (x y : Int) (H : PH), TMt sz w a H → H 591 = B → MB B → RUN E res n kd_X12_readText (zget kd_X12_readText 10) 10 [590, x, y] [] H → ∃ H' : PH, PQ H H' ∧ ((∃ m B', txK sz w m a B B' ∧ REPR E res (some (0, 1)) H' ∧ H' 591 = B') ∨ ((∀ m B', ¬ txK sz w m a B B') ∧ REPR E res (some (0, 0)) H')) := by
  intro n
  induction n using Nat.strongRecOn with
  | _ n ih =>
    intro a B x y H hT hR hB h
    have e2 := hT.2.2.1
    have e4 := hT.1
    have en := TMt_he hT
    have bd := hT.2.2
    by_cases q : a < sz
    · have q' : ¬ sz ≤ a := by omega
      have bad : ¬ itK sz w a B → ∀ m B', ¬ txK sz w m a B B' := fun k m B' t => by
        cases m with
        | zero => have := t.1; omega
        | succ m => exact k t.2.1
      have good : itK sz w a B → ∀ (H2 : PH) (x y : Int), PQ H H2 → TMt sz w (itE sz w a) H2 → H2 591 = itR sz w a B → xJ E res n kd_X12_readText 10 [590, x, y] [] H2 → ∃ H' : PH, PQ H H' ∧ ((∃ m B', txK sz w m a B B' ∧ REPR E res (some (0, 1)) H' ∧ H' 591 = B') ∨ ((∀ m B', ¬ txK sz w m a B B') ∧ REPR E res (some (0, 0)) H')) := by
        rintro k H2 x y p t r ⟨m, hm, g⟩
        obtain ⟨H', g1, g2⟩ := ih m hm _ _ x y H2 t r (MB_it hw bd.2.1 hB k) g
        refine ⟨H', PQ_trans p g1, ?_⟩
        rcases g2 with ⟨m', B', k1, k2, k3⟩ | ⟨k1, k2⟩
        · exact Or.inl ⟨m' + 1, B', ⟨q, k, k1⟩, k2, k3⟩
        · refine Or.inr ⟨fun m' B' t => ?_, k2⟩
          cases m' with
          | zero => have := t.1; omega
          | succ m' => exact k1 m' B' t.2.2
      by_cases c1 : nxF sz w a = 98
      · have iE : itE sz w a = blE sz w a := if_pos c1
        have iR : itR sz w a B = blR sz w a B := if_pos c1
        have h := xw_top (hd := [10]) 10 xD6_ok xc_X12_readText xa_X12_readText (t := 10) rfl h
        simp (maxDischargeDepth := 12) -implicitDefEqProofs [vb_X12_readText_0, vb_X12_readText_10, vb_X12_readText_43, vb_X12_readText_60, vb_X12_readText_77, vb_X12_readText_85, vb_X12_readText_92, vb_X12_readText_95, xI_0, xI_1, xI_3, xI_7, xI_8, xI_36, xI_38, xI_44, xI_46, xI_49, xI_50, xI_61, xI_62, xw_X12_readText_0, xw_X12_readText_10, xw_X12_readText_43, xw_X12_readText_60, xw_X12_readText_77, xw_X12_readText_85, xw_X12_readText_92, xw_X12_readText_95, zw_lit, xB_c, xB_s, xB_n, i1_c, j2_c, k1_c, jJ_e, xlg, xls, xla, xpd, ppush, zw_m1, zw_m2, zw_m3, gf_12_4, gf_12_5, pf_12_5, pf_12_6, tg_12_4, tg_12_5, tg_12_6, gv_590_4, gv_590_5, xD1, xD2, xD3, xD4, xD5, xD6, xb1_0, e2, e4, en, q, q', c1] at h
        obtain ⟨r, H2, ⟨p, g⟩, h⟩ := xc_use h (sp_X12_readBill a sz a w B H hT q hw hR hB)
        rcases g with ⟨k, rfl, t, r⟩ | ⟨k, rfl⟩
        · simp (maxDischargeDepth := 12) -implicitDefEqProofs [vb_X12_readText_0, vb_X12_readText_10, vb_X12_readText_43, vb_X12_readText_60, vb_X12_readText_77, vb_X12_readText_85, vb_X12_readText_92, vb_X12_readText_95, xI_0, xI_1, xI_3, xI_7, xI_8, xI_36, xI_38, xI_44, xI_46, xI_49, xI_50, xI_61, xI_62, xw_X12_readText_0, xw_X12_readText_10, xw_X12_readText_43, xw_X12_readText_60, xw_X12_readText_77, xw_X12_readText_85, xw_X12_readText_92, xw_X12_readText_95, zw_lit, xB_c, xB_s, xB_n, i1_c, j2_c, k1_c, jJ_e, xlg, xls, xla, xpd, ppush, zw_m1, zw_m2, zw_m3, gf_12_4, gf_12_5, pf_12_5, pf_12_6, tg_12_4, tg_12_5, tg_12_6, gv_590_4, gv_590_5, xD1, xD2, xD3, xD4, xD5, xD6, xb1_0] at h
          exact good (Or.inl ⟨c1, k⟩) H2 _ _ p (by rw [iE]; exact t) (by rw [iR]; exact r) h
        · simp (maxDischargeDepth := 12) -implicitDefEqProofs [vb_X12_readText_0, vb_X12_readText_10, vb_X12_readText_43, vb_X12_readText_60, vb_X12_readText_77, vb_X12_readText_85, vb_X12_readText_92, vb_X12_readText_95, xI_0, xI_1, xI_3, xI_7, xI_8, xI_36, xI_38, xI_44, xI_46, xI_49, xI_50, xI_61, xI_62, xw_X12_readText_0, xw_X12_readText_10, xw_X12_readText_43, xw_X12_readText_60, xw_X12_readText_77, xw_X12_readText_85, xw_X12_readText_92, xw_X12_readText_95, zw_lit, xB_c, xB_s, xB_n, i1_c, j2_c, k1_c, jJ_e, xlg, xls, xla, xpd, ppush, zw_m1, zw_m2, zw_m3, gf_12_4, gf_12_5, pf_12_5, pf_12_6, tg_12_4, tg_12_5, tg_12_6, gv_590_4, gv_590_5, xD1, xD2, xD3, xD4, xD5, xD6, xb1_0] at h
          exact ⟨H2, p, Or.inr ⟨bad (fun i => by
            rcases i with i | i | i
            · exact k i.2
            · have := i.1; omega
            · have := i.1; omega), h⟩⟩
      · by_cases c2 : nxF sz w a = 126
        · have iE : itE sz w a = a + 4 := by unfold itE; rw [if_neg c1, if_pos c2]
          have iR : itR sz w a B = cpR sz w a B := by unfold itR; rw [if_neg c1, if_pos c2]
          have h := xw_top (hd := [10]) 10 xD6_ok xc_X12_readText xa_X12_readText (t := 10) rfl h
          simp (maxDischargeDepth := 12) -implicitDefEqProofs [vb_X12_readText_0, vb_X12_readText_10, vb_X12_readText_43, vb_X12_readText_60, vb_X12_readText_77, vb_X12_readText_85, vb_X12_readText_92, vb_X12_readText_95, xI_0, xI_1, xI_3, xI_7, xI_8, xI_36, xI_38, xI_44, xI_46, xI_49, xI_50, xI_61, xI_62, xw_X12_readText_0, xw_X12_readText_10, xw_X12_readText_43, xw_X12_readText_60, xw_X12_readText_77, xw_X12_readText_85, xw_X12_readText_92, xw_X12_readText_95, zw_lit, xB_c, xB_s, xB_n, i1_c, j2_c, k1_c, jJ_e, xlg, xls, xla, xpd, ppush, zw_m1, zw_m2, zw_m3, gf_12_4, gf_12_5, pf_12_5, pf_12_6, tg_12_4, tg_12_5, tg_12_6, gv_590_4, gv_590_5, xD1, xD2, xD3, xD4, xD5, xD6, xb1_0, e2, e4, en, q, q', c1, c2] at h
          obtain ⟨r, H2, ⟨p, g⟩, h⟩ := xc_use h (sp_X12_readCouple a sz a w B H hT q hR hB)
          rcases g with ⟨k, rfl, t, r⟩ | ⟨k, rfl⟩
          · simp (maxDischargeDepth := 12) -implicitDefEqProofs [vb_X12_readText_0, vb_X12_readText_10, vb_X12_readText_43, vb_X12_readText_60, vb_X12_readText_77, vb_X12_readText_85, vb_X12_readText_92, vb_X12_readText_95, xI_0, xI_1, xI_3, xI_7, xI_8, xI_36, xI_38, xI_44, xI_46, xI_49, xI_50, xI_61, xI_62, xw_X12_readText_0, xw_X12_readText_10, xw_X12_readText_43, xw_X12_readText_60, xw_X12_readText_77, xw_X12_readText_85, xw_X12_readText_92, xw_X12_readText_95, zw_lit, xB_c, xB_s, xB_n, i1_c, j2_c, k1_c, jJ_e, xlg, xls, xla, xpd, ppush, zw_m1, zw_m2, zw_m3, gf_12_4, gf_12_5, pf_12_5, pf_12_6, tg_12_4, tg_12_5, tg_12_6, gv_590_4, gv_590_5, xD1, xD2, xD3, xD4, xD5, xD6, xb1_0] at h
            exact good (Or.inr (Or.inl ⟨c2, k⟩)) H2 _ _ p (by rw [iE]; exact t) (by rw [iR]; exact r) h
          · simp (maxDischargeDepth := 12) -implicitDefEqProofs [vb_X12_readText_0, vb_X12_readText_10, vb_X12_readText_43, vb_X12_readText_60, vb_X12_readText_77, vb_X12_readText_85, vb_X12_readText_92, vb_X12_readText_95, xI_0, xI_1, xI_3, xI_7, xI_8, xI_36, xI_38, xI_44, xI_46, xI_49, xI_50, xI_61, xI_62, xw_X12_readText_0, xw_X12_readText_10, xw_X12_readText_43, xw_X12_readText_60, xw_X12_readText_77, xw_X12_readText_85, xw_X12_readText_92, xw_X12_readText_95, zw_lit, xB_c, xB_s, xB_n, i1_c, j2_c, k1_c, jJ_e, xlg, xls, xla, xpd, ppush, zw_m1, zw_m2, zw_m3, gf_12_4, gf_12_5, pf_12_5, pf_12_6, tg_12_4, tg_12_5, tg_12_6, gv_590_4, gv_590_5, xD1, xD2, xD3, xD4, xD5, xD6, xb1_0] at h
            exact ⟨H2, p, Or.inr ⟨bad (fun i => by
              rcases i with i | i | i
              · exact c1 i.1
              · exact k i.2
              · have := i.1; omega), h⟩⟩
        · by_cases c3 : nxF sz w a = 116
          · have iE : itE sz w a = lnE sz w a := by unfold itE; rw [if_neg c1, if_neg c2]
            have iR : itR sz w a B = lnR sz w a B := by unfold itR; rw [if_neg c1, if_neg c2]
            have h := xw_top (hd := [10]) 10 xD6_ok xc_X12_readText xa_X12_readText (t := 10) rfl h
            simp (maxDischargeDepth := 12) -implicitDefEqProofs [vb_X12_readText_0, vb_X12_readText_10, vb_X12_readText_43, vb_X12_readText_60, vb_X12_readText_77, vb_X12_readText_85, vb_X12_readText_92, vb_X12_readText_95, xI_0, xI_1, xI_3, xI_7, xI_8, xI_36, xI_38, xI_44, xI_46, xI_49, xI_50, xI_61, xI_62, xw_X12_readText_0, xw_X12_readText_10, xw_X12_readText_43, xw_X12_readText_60, xw_X12_readText_77, xw_X12_readText_85, xw_X12_readText_92, xw_X12_readText_95, zw_lit, xB_c, xB_s, xB_n, i1_c, j2_c, k1_c, jJ_e, xlg, xls, xla, xpd, ppush, zw_m1, zw_m2, zw_m3, gf_12_4, gf_12_5, pf_12_5, pf_12_6, tg_12_4, tg_12_5, tg_12_6, gv_590_4, gv_590_5, xD1, xD2, xD3, xD4, xD5, xD6, xb1_0, e2, e4, en, q, q', c1, c2, c3] at h
            obtain ⟨r, H2, ⟨p, g⟩, h⟩ := xc_use h (sp_X12_readLine a sz a w B H hT q hw hR hB)
            rcases g with ⟨k, rfl, t, r⟩ | ⟨k, rfl⟩
            · simp (maxDischargeDepth := 12) -implicitDefEqProofs [vb_X12_readText_0, vb_X12_readText_10, vb_X12_readText_43, vb_X12_readText_60, vb_X12_readText_77, vb_X12_readText_85, vb_X12_readText_92, vb_X12_readText_95, xI_0, xI_1, xI_3, xI_7, xI_8, xI_36, xI_38, xI_44, xI_46, xI_49, xI_50, xI_61, xI_62, xw_X12_readText_0, xw_X12_readText_10, xw_X12_readText_43, xw_X12_readText_60, xw_X12_readText_77, xw_X12_readText_85, xw_X12_readText_92, xw_X12_readText_95, zw_lit, xB_c, xB_s, xB_n, i1_c, j2_c, k1_c, jJ_e, xlg, xls, xla, xpd, ppush, zw_m1, zw_m2, zw_m3, gf_12_4, gf_12_5, pf_12_5, pf_12_6, tg_12_4, tg_12_5, tg_12_6, gv_590_4, gv_590_5, xD1, xD2, xD3, xD4, xD5, xD6, xb1_0] at h
              exact good (Or.inr (Or.inr ⟨c3, k⟩)) H2 _ _ p (by rw [iE]; exact t) (by rw [iR]; exact r) h
            · simp (maxDischargeDepth := 12) -implicitDefEqProofs [vb_X12_readText_0, vb_X12_readText_10, vb_X12_readText_43, vb_X12_readText_60, vb_X12_readText_77, vb_X12_readText_85, vb_X12_readText_92, vb_X12_readText_95, xI_0, xI_1, xI_3, xI_7, xI_8, xI_36, xI_38, xI_44, xI_46, xI_49, xI_50, xI_61, xI_62, xw_X12_readText_0, xw_X12_readText_10, xw_X12_readText_43, xw_X12_readText_60, xw_X12_readText_77, xw_X12_readText_85, xw_X12_readText_92, xw_X12_readText_95, zw_lit, xB_c, xB_s, xB_n, i1_c, j2_c, k1_c, jJ_e, xlg, xls, xla, xpd, ppush, zw_m1, zw_m2, zw_m3, gf_12_4, gf_12_5, pf_12_5, pf_12_6, tg_12_4, tg_12_5, tg_12_6, gv_590_4, gv_590_5, xD1, xD2, xD3, xD4, xD5, xD6, xb1_0] at h
              exact ⟨H2, p, Or.inr ⟨bad (fun i => by
                rcases i with i | i | i
                · exact c1 i.1
                · exact c2 i.1
                · exact k i.2), h⟩⟩
          · have h := xw_top (hd := [10]) 10 xD6_ok xc_X12_readText xa_X12_readText (t := 10) rfl h
            simp (maxDischargeDepth := 12) -implicitDefEqProofs [vb_X12_readText_0, vb_X12_readText_10, vb_X12_readText_43, vb_X12_readText_60, vb_X12_readText_77, vb_X12_readText_85, vb_X12_readText_92, vb_X12_readText_95, xI_0, xI_1, xI_3, xI_7, xI_8, xI_36, xI_38, xI_44, xI_46, xI_49, xI_50, xI_61, xI_62, xw_X12_readText_0, xw_X12_readText_10, xw_X12_readText_43, xw_X12_readText_60, xw_X12_readText_77, xw_X12_readText_85, xw_X12_readText_92, xw_X12_readText_95, zw_lit, xB_c, xB_s, xB_n, i1_c, j2_c, k1_c, jJ_e, xlg, xls, xla, xpd, ppush, zw_m1, zw_m2, zw_m3, gf_12_4, gf_12_5, pf_12_5, pf_12_6, tg_12_4, tg_12_5, tg_12_6, gv_590_4, gv_590_5, xD1, xD2, xD3, xD4, xD5, xD6, xb1_0, e2, e4, en, q, q', c1, c2, c3] at h
            obtain ⟨r, H2, ⟨rfl, rfl⟩, h⟩ := xc_use h (sp_X12_fails a H)
            simp (maxDischargeDepth := 12) -implicitDefEqProofs [vb_X12_readText_0, vb_X12_readText_10, vb_X12_readText_43, vb_X12_readText_60, vb_X12_readText_77, vb_X12_readText_85, vb_X12_readText_92, vb_X12_readText_95, xI_0, xI_1, xI_3, xI_7, xI_8, xI_36, xI_38, xI_44, xI_46, xI_49, xI_50, xI_61, xI_62, xw_X12_readText_0, xw_X12_readText_10, xw_X12_readText_43, xw_X12_readText_60, xw_X12_readText_77, xw_X12_readText_85, xw_X12_readText_92, xw_X12_readText_95, zw_lit, xB_c, xB_s, xB_n, i1_c, j2_c, k1_c, jJ_e, xlg, xls, xla, xpd, ppush, zw_m1, zw_m2, zw_m3, gf_12_4, gf_12_5, pf_12_5, pf_12_6, tg_12_4, tg_12_5, tg_12_6, gv_590_4, gv_590_5, xD1, xD2, xD3, xD4, xD5, xD6, xb1_0] at h
            exact ⟨_, PQ_up (Or.inr (Or.inl rfl)), Or.inr ⟨bad (fun i => by
              rcases i with i | i | i
              · exact c1 i.1
              · exact c2 i.1
              · exact c3 i.1), h⟩⟩
    · have q' : sz ≤ a := by omega
      have h := xw_top (hd := [10]) 10 xD6_ok xc_X12_readText xa_X12_readText (t := 10) rfl h
      simp (maxDischargeDepth := 12) -implicitDefEqProofs [vb_X12_readText_0, vb_X12_readText_10, vb_X12_readText_43, vb_X12_readText_60, vb_X12_readText_77, vb_X12_readText_85, vb_X12_readText_92, vb_X12_readText_95, xI_0, xI_1, xI_3, xI_7, xI_8, xI_36, xI_38, xI_44, xI_46, xI_49, xI_50, xI_61, xI_62, xw_X12_readText_0, xw_X12_readText_10, xw_X12_readText_43, xw_X12_readText_60, xw_X12_readText_77, xw_X12_readText_85, xw_X12_readText_92, xw_X12_readText_95, zw_lit, xB_c, xB_s, xB_n, i1_c, j2_c, k1_c, jJ_e, xlg, xls, xla, xpd, ppush, zw_m1, zw_m2, zw_m3, gf_12_4, gf_12_5, pf_12_5, pf_12_6, tg_12_4, tg_12_5, tg_12_6, gv_590_4, gv_590_5, xD1, xD2, xD3, xD4, xD5, xD6, xb1_0, e2, e4, q, q'] at h
      exact ⟨H, PQ_refl, Or.inl ⟨0, B, ⟨q', rfl⟩, h, hR⟩⟩
theorem sp_X12_readText (sz : Int) (w : Int → Int) (B : Int → Int) (H : PH) (h4 : H 590 4 = sz) (hs : 0 ≤ sz ∧ sz ≤ 600) (hw : ∀ i, 0 ≤ i → i < sz → 0 ≤ w i ∧ w i ≤ 255) (hb : ∀ i, 0 ≤ i → i < sz → q2 (· &&& ·) (H 593 i) 255 = w i) (hR : H 591 = B) (hB : MB B) : SPEC 180 [(2, 590)] H (fun r H' => PQ H H' ∧ ((∃ m B', txK sz w m 0 B B' ∧ r = some (0, 1) ∧ H' 591 = B') ∨ ((∀ m B', ¬ txK sz w m 0 B B') ∧ r = some (0, 0)))) := by
  intro E n res h
  have h := call_runP 3 vm_X12_readText h
  have h := xw_top (hd := [10]) 10 xD6_ok xc_X12_readText xa_X12_readText (t := 0) rfl h
  simp (maxDischargeDepth := 12) -implicitDefEqProofs [vb_X12_readText_0, vb_X12_readText_10, vb_X12_readText_43, vb_X12_readText_60, vb_X12_readText_77, vb_X12_readText_85, vb_X12_readText_92, vb_X12_readText_95, xI_0, xI_1, xI_3, xI_7, xI_8, xI_36, xI_38, xI_44, xI_46, xI_49, xI_50, xI_61, xI_62, xw_X12_readText_0, xw_X12_readText_10, xw_X12_readText_43, xw_X12_readText_60, xw_X12_readText_77, xw_X12_readText_85, xw_X12_readText_92, xw_X12_readText_95, zw_lit, xB_c, xB_s, xB_n, i1_c, j2_c, k1_c, jJ_e, xlg, xls, xla, xpd, ppush, zw_m1, zw_m2, zw_m3, gf_12_4, gf_12_5, pf_12_5, pf_12_6, tg_12_4, tg_12_5, tg_12_6, gv_590_4, gv_590_5, xD1, xD2, xD3, xD4, xD5, xD6, xb1_0] at h
  obtain ⟨m, hm, h⟩ := h
  obtain ⟨H', g1, g2⟩ := lp_rtx sz w hw m 0 B _ _ _ ⟨by rw [xp_at, if_neg (by decide), xp_at, if_neg (by decide)]; exact h4, fun i i0 i1 => by rw [xp_ne (by decide), xp_ne (by decide)]; exact hb i i0 i1, by rw [xp_at, if_neg (by decide), xp_at, if_pos rfl], by omega, by omega, by omega⟩ (by rw [xp_ne (by decide), xp_ne (by decide)]; exact hR) hB h
  have p := PQ_trans (PQ_trans (PQ_up (Or.inl rfl)) (PQ_up (Or.inr (Or.inl rfl)))) g1
  rcases g2 with ⟨m', B', k1, k2, k3⟩ | ⟨k1, k2⟩
  · exact ⟨_, H', k2, p, Or.inl ⟨m', B', k1, rfl, k3⟩⟩
  · exact ⟨_, H', k2, p, Or.inr ⟨k1, rfl⟩⟩
