theorem rnF_s {sz : Int} {w : Int → Int} {v : Int} {n : Nat} {a : Int} : rnF sz w v (n + 1) a = if (48 ≤ nxF sz w a ∧ nxF sz w a ≤ 57) ∨ (65 ≤ nxF sz w a ∧ nxF sz w a ≤ 90) ∨ (¬ v = 0 ∧ nxF sz w a = 46) then 1 + rnF sz w v n (a + 1) else 0 := by
  conv => lhs; unfold rnF
theorem xb1_T {p : Prop} [Decidable p] (h : p) : (xb1 p = 0) = False := by
  unfold xb1
  rw [if_pos h]
  simp
theorem xb1_F {p : Prop} [Decidable p] (h : ¬ p) : (xb1 p = 0) = True := by
  unfold xb1
  rw [if_neg h]
  simp
/-- the model's row with signs of the tape laid behind place l -/
def RMk (sz : Int) (w : Int → Int) (a l n : Int) (A B : Int → Int) : Prop := (∀ i, 0 ≤ i → i < n → B (l + 1 + i) = nxF sz w (a + i)) ∧ ∀ j, ¬ (l + 1 ≤ j ∧ j < l + 1 + n) → ¬ j = l → B j = A j
/-- what reading a mark leaves as it is -/
def PN (H H' : PH) : Prop := (∀ c, ¬ c = 590 → ¬ c = 591 → H' c = H c) ∧ ∀ i, ¬ i = 5 → ¬ i = 6 → H' 590 i = H 590 i
theorem PN_refl {H : PH} : PN H H := ⟨fun _ _ _ => rfl, fun _ _ _ => rfl⟩
theorem PN_trans {H H1 H2 : PH} (a : PN H H1) (b : PN H1 H2) : PN H H2 := ⟨fun c h1 h2 => (b.1 c h1 h2).trans (a.1 c h1 h2), fun i h1 h2 => (b.2 i h1 h2).trans (a.2 i h1 h2)⟩
theorem PN_up {H : PH} {i v : Int} (h : i = 5 ∨ i = 6) : PN H (pup H 590 i v) := ⟨fun c h1 _ => xp_ne h1, fun j h1 h2 => by rw [xp_at, if_neg (by omega)]⟩
theorem PN_row {H : PH} {i v : Int} : PN H (pup H 591 i v) := ⟨fun c _ h2 => xp_ne h2, fun j _ _ => congrFun (xp_ne (by decide)) j⟩
set_option maxRecDepth 100000 in
theorem rmk_end (v l : Int) {sz a : Int} (w : Int → Int) (hl : 0 ≤ l ∧ l ≤ 1115) {E : xE} {res : xR} {n : Nat} {i : Nat} {H : PH} (hi : i ≤ 8) (hT : TMt sz w (a + i) H) (f : ¬ ((48 ≤ nxF sz w (a + i) ∧ nxF sz w (a + i) ≤ 57) ∨ (65 ≤ nxF sz w (a + i) ∧ nxF sz w (a + i) ≤ 90))) (s : ¬ ((48 ≤ nxF sz w (a + i) ∧ nxF sz w (a + i) ≤ 57) ∨ (65 ≤ nxF sz w (a + i) ∧ nxF sz w (a + i) ≤ 90) ∨ (¬ v = 0 ∧ nxF sz w (a + i) = 46))) (h : RUN E res n kd_X12_readMark (zget kd_X12_readMark 3) 3 [590, l, l + 1, v, i] [] H) : ∃ H' : PH, PN H H' ∧ ((1 ≤ i ∧ REPR E res (some (0, 1)) H' ∧ H' = pup H 591 l i) ∨ (i = 0 ∧ REPR E res (some (0, 0)) H')) := by
  have en := TMt_he hT
  have e2 := hT.2.2.1
  have st : ∀ {L : List Int}, L = [590, l, l + 1, v, (i : Int)] → xJ E res n kd_X12_readMark 71 L [] H → ∃ H' : PH, PN H H' ∧ ((1 ≤ i ∧ REPR E res (some (0, 1)) H' ∧ H' = pup H 591 l i) ∨ (i = 0 ∧ REPR E res (some (0, 0)) H')) := by
    rintro L rfl ⟨m, hm, h⟩
    have e2b : ∀ x y : Int, pup H 591 x y 590 = H 590 := fun x y => xp_ne (by decide)
    have h := xw_top (hd := [3, 71]) 10 xD6_ok xc_X12_readMark xa_X12_readMark (t := 71) rfl h
    simp (maxDischargeDepth := 12) -implicitDefEqProofs [vb_X12_readMark_0, vb_X12_readMark_3, vb_X12_readMark_26, vb_X12_readMark_42, vb_X12_readMark_71, vb_X12_readMark_95, vb_X12_readMark_99, vb_X12_readMark_100, xI_0, xI_1, xI_3, xI_6, xI_7, xI_8, xI_14, xI_33, xI_36, xI_37, xI_38, xI_41, xI_44, xI_49, xI_50, xI_52, xI_60, xI_61, xI_62, xw_X12_readMark_0, xw_X12_readMark_3, xw_X12_readMark_26, xw_X12_readMark_42, xw_X12_readMark_71, xw_X12_readMark_95, xw_X12_readMark_99, xw_X12_readMark_100, zw_lit, xB_c, xB_s, xB_n, i1_c, j2_c, k1_c, jJ_e, xlg, xls, xla, xpd, ppush, zw_m1, zw_m2, zw_m3, gf_12_0, gf_12_5, pf_12_5, tg_12_0, tg_12_5, gv_590_0, gv_590_5, xD1, xD2, xD3, xD4, xD5, xD6, xb1_0] at h
    rcases h with ⟨i1, h⟩ | ⟨i0, h⟩
    · exact ⟨_, PN_row, Or.inl ⟨by omega, h, rfl⟩⟩
    · obtain ⟨r, H2, ⟨rfl, rfl⟩, h⟩ := xc_use h (sp_X12_fails _ _)
      simp (maxDischargeDepth := 12) -implicitDefEqProofs [vb_X12_readMark_0, vb_X12_readMark_3, vb_X12_readMark_26, vb_X12_readMark_42, vb_X12_readMark_71, vb_X12_readMark_95, vb_X12_readMark_99, vb_X12_readMark_100, xI_0, xI_1, xI_3, xI_6, xI_7, xI_8, xI_14, xI_33, xI_36, xI_37, xI_38, xI_41, xI_44, xI_49, xI_50, xI_52, xI_60, xI_61, xI_62, xw_X12_readMark_0, xw_X12_readMark_3, xw_X12_readMark_26, xw_X12_readMark_42, xw_X12_readMark_71, xw_X12_readMark_95, xw_X12_readMark_99, xw_X12_readMark_100, zw_lit, xB_c, xB_s, xB_n, i1_c, j2_c, k1_c, jJ_e, xlg, xls, xla, xpd, ppush, zw_m1, zw_m2, zw_m3, gf_12_0, gf_12_5, pf_12_5, tg_12_0, tg_12_5, gv_590_0, gv_590_5, xD1, xD2, xD3, xD4, xD5, xD6, xb1_0] at h
      exact ⟨_, PN_trans PN_row (PN_up (Or.inr rfl)), Or.inr ⟨by omega, h⟩⟩
  by_cases v0 : v = 0
  · subst v0
    have h := xw_top (hd := [3, 71]) 10 xD6_ok xc_X12_readMark xa_X12_readMark (t := 3) rfl h
    simp (maxDischargeDepth := 12) -implicitDefEqProofs [vb_X12_readMark_0, vb_X12_readMark_3, vb_X12_readMark_26, vb_X12_readMark_42, vb_X12_readMark_71, vb_X12_readMark_95, vb_X12_readMark_99, vb_X12_readMark_100, xI_0, xI_1, xI_3, xI_6, xI_7, xI_8, xI_14, xI_33, xI_36, xI_37, xI_38, xI_41, xI_44, xI_49, xI_50, xI_52, xI_60, xI_61, xI_62, xw_X12_readMark_0, xw_X12_readMark_3, xw_X12_readMark_26, xw_X12_readMark_42, xw_X12_readMark_71, xw_X12_readMark_95, xw_X12_readMark_99, xw_X12_readMark_100, zw_lit, xB_c, xB_s, xB_n, i1_c, j2_c, k1_c, jJ_e, xlg, xls, xla, xpd, ppush, zw_m1, zw_m2, zw_m3, gf_12_0, gf_12_5, pf_12_5, tg_12_0, tg_12_5, gv_590_0, gv_590_5, xD1, xD2, xD3, xD4, xD5, xD6, en, e2, xb1_T, xb1_F, f] at h
    exact st rfl h
  · have nx : ¬ nxF sz w (a + i) = 46 := fun q => s (Or.inr (Or.inr ⟨v0, q⟩))
    have h := xw_top (hd := [3, 71]) 10 xD6_ok xc_X12_readMark xa_X12_readMark (t := 3) rfl h
    simp (maxDischargeDepth := 12) -implicitDefEqProofs [vb_X12_readMark_0, vb_X12_readMark_3, vb_X12_readMark_26, vb_X12_readMark_42, vb_X12_readMark_71, vb_X12_readMark_95, vb_X12_readMark_99, vb_X12_readMark_100, xI_0, xI_1, xI_3, xI_6, xI_7, xI_8, xI_14, xI_33, xI_36, xI_37, xI_38, xI_41, xI_44, xI_49, xI_50, xI_52, xI_60, xI_61, xI_62, xw_X12_readMark_0, xw_X12_readMark_3, xw_X12_readMark_26, xw_X12_readMark_42, xw_X12_readMark_71, xw_X12_readMark_95, xw_X12_readMark_99, xw_X12_readMark_100, zw_lit, xB_c, xB_s, xB_n, i1_c, j2_c, k1_c, jJ_e, xlg, xls, xla, xpd, ppush, zw_m1, zw_m2, zw_m3, gf_12_0, gf_12_5, pf_12_5, tg_12_0, tg_12_5, gv_590_0, gv_590_5, xD1, xD2, xD3, xD4, xD5, xD6, en, e2, xb1_T, xb1_F, f, v0, nx] at h
    exact st rfl h
set_option maxRecDepth 100000 in
theorem lp_rmk (v l : Int) (sz a : Int) (w : Int → Int) (A : Int → Int) (hl : 0 ≤ l ∧ l ≤ 1115) {E : xE} {res : xR} : ∀ (n : Nat) (i : Nat) (H : PH), i ≤ 8 → TMt sz w (a + i) H → RMk sz w a l i A (H 591) → RUN E res n kd_X12_readMark (zget kd_X12_readMark 3) 3 [590, l, l + 1, v, i] [] H → ∃ H' : PH, PN H H' ∧ ((((1 : Int) ≤ i + rnF sz w v (9 - i) (a + i) ∧ i + rnF sz w v (9 - i) (a + i) ≤ 8) ∧ REPR E res (some (0, 1)) H' ∧ TMt sz w (a + i + rnF sz w v (9 - i) (a + i)) H' ∧ RMk sz w a l (i + rnF sz w v (9 - i) (a + i)) A (H' 591) ∧ H' 591 l = i + rnF sz w v (9 - i) (a + i)) ∨ (¬ ((1 : Int) ≤ i + rnF sz w v (9 - i) (a + i) ∧ i + rnF sz w v (9 - i) (a + i) ≤ 8) ∧ REPR E res (some (0, 0)) H')) := by
  intro n
  induction n using Nat.strongRecOn with
  | _ n ih =>
    intro i H hi hT hR h
    have en := TMt_he hT
    have e2 := hT.2.2.1
    have z1 : zw ((i : Int) + 1) = ((i + 1 : Nat) : Int) := by
      rw [zw_lit (by omega) (by omega)]
      rfl
    have z3 : zw (l + 1 + i) = l + 1 + i := zw_lit (by omega) (by omega)
    have er : rnF sz w v (9 - i) (a + i) = if (48 ≤ nxF sz w (a + i) ∧ nxF sz w (a + i) ≤ 57) ∨ (65 ≤ nxF sz w (a + i) ∧ nxF sz w (a + i) ≤ 90) ∨ (¬ v = 0 ∧ nxF sz w (a + i) = 46) then 1 + rnF sz w v (8 - i) (a + i + 1) else 0 := by
      rw [show 9 - i = (8 - i) + 1 by omega]
      exact rnF_s
    by_cases s : (48 ≤ nxF sz w (a + i) ∧ nxF sz w (a + i) ≤ 57) ∨ (65 ≤ nxF sz w (a + i) ∧ nxF sz w (a + i) ≤ 90) ∨ (¬ v = 0 ∧ nxF sz w (a + i) = 46)
    · rw [if_pos s] at er
      rw [er]
      have hls : a + i < sz := nxF_lt (w := w) rfl (by omega)
      have z2 : zw (a + i + 1) = a + i + 1 := zw_lit (by have := hT.2.2; omega) (by have := hT.2.2; omega)
      by_cases i8 : i = 8
      · -- too many
        have e : rnF sz w v (8 - i) (a + i + 1) = 0 := by
          rw [i8]
          rfl
        rw [e]
        have h8 : (i : Int) = 8 := by omega
        have l59 : ¬ (48 ≤ nxF sz w (a + i) ∧ nxF sz w (a + i) ≤ 57 ∨ 65 ≤ nxF sz w (a + i) ∧ nxF sz w (a + i) ≤ 90) → ¬ v = 0 ∧ nxF sz w (a + i) = 46 := fun q => by omega
        by_cases f : (48 ≤ nxF sz w (a + i) ∧ nxF sz w (a + i) ≤ 57) ∨ (65 ≤ nxF sz w (a + i) ∧ nxF sz w (a + i) ≤ 90)
        · have f8 := f
          rw [h8] at f8
          have h := xw_top (hd := [3]) 10 xD6_ok xc_X12_readMark xa_X12_readMark (t := 3) rfl h
          simp (maxDischargeDepth := 12) -implicitDefEqProofs [vb_X12_readMark_0, vb_X12_readMark_3, vb_X12_readMark_26, vb_X12_readMark_42, vb_X12_readMark_71, vb_X12_readMark_95, vb_X12_readMark_99, vb_X12_readMark_100, xI_0, xI_1, xI_3, xI_6, xI_7, xI_8, xI_14, xI_33, xI_36, xI_37, xI_38, xI_41, xI_44, xI_49, xI_50, xI_52, xI_60, xI_61, xI_62, xw_X12_readMark_0, xw_X12_readMark_3, xw_X12_readMark_26, xw_X12_readMark_42, xw_X12_readMark_71, xw_X12_readMark_95, xw_X12_readMark_99, xw_X12_readMark_100, zw_lit, xB_c, xB_s, xB_n, i1_c, j2_c, k1_c, jJ_e, xlg, xls, xla, xpd, ppush, zw_m1, zw_m2, zw_m3, gf_12_0, gf_12_5, pf_12_5, tg_12_0, tg_12_5, gv_590_0, gv_590_5, xD1, xD2, xD3, xD4, xD5, xD6, en, e2, xb1_T, xb1_F, f8, h8] at h
          obtain ⟨r, H2, ⟨rfl, rfl⟩, h⟩ := xc_use h (sp_X12_fails _ H)
          simp (maxDischargeDepth := 12) -implicitDefEqProofs [vb_X12_readMark_0, vb_X12_readMark_3, vb_X12_readMark_26, vb_X12_readMark_42, vb_X12_readMark_71, vb_X12_readMark_95, vb_X12_readMark_99, vb_X12_readMark_100, xI_0, xI_1, xI_3, xI_6, xI_7, xI_8, xI_14, xI_33, xI_36, xI_37, xI_38, xI_41, xI_44, xI_49, xI_50, xI_52, xI_60, xI_61, xI_62, xw_X12_readMark_0, xw_X12_readMark_3, xw_X12_readMark_26, xw_X12_readMark_42, xw_X12_readMark_71, xw_X12_readMark_95, xw_X12_readMark_99, xw_X12_readMark_100, zw_lit, xB_c, xB_s, xB_n, i1_c, j2_c, k1_c, jJ_e, xlg, xls, xla, xpd, ppush, zw_m1, zw_m2, zw_m3, gf_12_0, gf_12_5, pf_12_5, tg_12_0, tg_12_5, gv_590_0, gv_590_5, xD1, xD2, xD3, xD4, xD5, xD6, xb1_0] at h
          exact ⟨_, PN_up (Or.inr rfl), Or.inr ⟨by omega, h⟩⟩
        · obtain ⟨v0, nx⟩ := l59 f
          have f8 := f
          have nx8 := nx
          rw [h8] at f8 nx8
          have h := xw_top (hd := [3]) 10 xD6_ok xc_X12_readMark xa_X12_readMark (t := 3) rfl h
          simp (maxDischargeDepth := 12) -implicitDefEqProofs [vb_X12_readMark_0, vb_X12_readMark_3, vb_X12_readMark_26, vb_X12_readMark_42, vb_X12_readMark_71, vb_X12_readMark_95, vb_X12_readMark_99, vb_X12_readMark_100, xI_0, xI_1, xI_3, xI_6, xI_7, xI_8, xI_14, xI_33, xI_36, xI_37, xI_38, xI_41, xI_44, xI_49, xI_50, xI_52, xI_60, xI_61, xI_62, xw_X12_readMark_0, xw_X12_readMark_3, xw_X12_readMark_26, xw_X12_readMark_42, xw_X12_readMark_71, xw_X12_readMark_95, xw_X12_readMark_99, xw_X12_readMark_100, zw_lit, xB_c, xB_s, xB_n, i1_c, j2_c, k1_c, jJ_e, xlg, xls, xla, xpd, ppush, zw_m1, zw_m2, zw_m3, gf_12_0, gf_12_5, pf_12_5, tg_12_0, tg_12_5, gv_590_0, gv_590_5, xD1, xD2, xD3, xD4, xD5, xD6, en, e2, xb1_T, xb1_F, f8, h8, v0, nx8] at h
          obtain ⟨r, H2, ⟨rfl, rfl⟩, h⟩ := xc_use h (sp_X12_fails _ H)
          simp (maxDischargeDepth := 12) -implicitDefEqProofs [vb_X12_readMark_0, vb_X12_readMark_3, vb_X12_readMark_26, vb_X12_readMark_42, vb_X12_readMark_71, vb_X12_readMark_95, vb_X12_readMark_99, vb_X12_readMark_100, xI_0, xI_1, xI_3, xI_6, xI_7, xI_8, xI_14, xI_33, xI_36, xI_37, xI_38, xI_41, xI_44, xI_49, xI_50, xI_52, xI_60, xI_61, xI_62, xw_X12_readMark_0, xw_X12_readMark_3, xw_X12_readMark_26, xw_X12_readMark_42, xw_X12_readMark_71, xw_X12_readMark_95, xw_X12_readMark_99, xw_X12_readMark_100, zw_lit, xB_c, xB_s, xB_n, i1_c, j2_c, k1_c, jJ_e, xlg, xls, xla, xpd, ppush, zw_m1, zw_m2, zw_m3, gf_12_0, gf_12_5, pf_12_5, tg_12_0, tg_12_5, gv_590_0, gv_590_5, xD1, xD2, xD3, xD4, xD5, xD6, xb1_0] at h
          exact ⟨_, PN_up (Or.inr rfl), Or.inr ⟨by omega, h⟩⟩
      · have go : xJ E res n kd_X12_readMark 3 [590, l, l + 1, v, ((i + 1 : Nat) : Int)] [] (pup (pup H 591 (l + 1 + i) (nxF sz w (a + i))) 590 5 (a + i + 1)) → ∃ H' : PH, PN H H' ∧ ((((1 : Int) ≤ i + (1 + rnF sz w v (8 - i) (a + i + 1)) ∧ i + (1 + rnF sz w v (8 - i) (a + i + 1)) ≤ 8) ∧ REPR E res (some (0, 1)) H' ∧ TMt sz w (a + i + (1 + rnF sz w v (8 - i) (a + i + 1))) H' ∧ RMk sz w a l (i + (1 + rnF sz w v (8 - i) (a + i + 1))) A (H' 591) ∧ H' 591 l = i + (1 + rnF sz w v (8 - i) (a + i + 1))) ∨ (¬ ((1 : Int) ≤ i + (1 + rnF sz w v (8 - i) (a + i + 1)) ∧ i + (1 + rnF sz w v (8 - i) (a + i + 1)) ≤ 8) ∧ REPR E res (some (0, 0)) H')) := by
          rintro ⟨m, hm, g⟩
          obtain ⟨H', g1, g2⟩ := ih m hm (i + 1) _ (by omega) (by
            rw [show a + ((i + 1 : Nat) : Int) = a + i + 1 by omega]
            exact TMt_eq hT (by rw [xp_at, if_neg (by decide), xp_ne (by decide)]) (by rw [xp_ne (by decide), xp_ne (by decide)]) (by rw [xp_at, if_pos rfl]) (by have := hT.2.2; omega)) (by
            rw [xp_ne (by decide)]
            refine ⟨fun j j0 j1 => ?_, fun j j0 j1 => ?_⟩
            · rw [xp_at]
              by_cases e : j = i
              · rw [if_pos (by omega), e]
              · rw [if_neg (by omega)]
                exact hR.1 j j0 (by omega)
            · rw [xp_at, if_neg (by omega)]
              exact hR.2 j (by omega) j1) g
          refine ⟨H', PN_trans (PN_trans PN_row (PN_up (Or.inl rfl))) g1, ?_⟩
          rw [show 9 - (i + 1) = 8 - i by omega, show a + ((i + 1 : Nat) : Int) = a + i + 1 by omega, show ((i + 1 : Nat) : Int) + rnF sz w v (8 - i) (a + i + 1) = i + (1 + rnF sz w v (8 - i) (a + i + 1)) by omega, show a + i + 1 + rnF sz w v (8 - i) (a + i + 1) = a + i + (1 + rnF sz w v (8 - i) (a + i + 1)) by omega] at g2
          exact g2
        have h8 : ¬ (i : Int) = 8 := by omega
        have e9 : ∀ x y : Int, heV (pup H 591 x y) = nxF sz w (a + i) := fun x y => en
        by_cases f : (48 ≤ nxF sz w (a + i) ∧ nxF sz w (a + i) ≤ 57) ∨ (65 ≤ nxF sz w (a + i) ∧ nxF sz w (a + i) ≤ 90)
        · have h := xw_top (hd := [3]) 10 xD6_ok xc_X12_readMark xa_X12_readMark (t := 3) rfl h
          simp (maxDischargeDepth := 12) -implicitDefEqProofs [vb_X12_readMark_0, vb_X12_readMark_3, vb_X12_readMark_26, vb_X12_readMark_42, vb_X12_readMark_71, vb_X12_readMark_95, vb_X12_readMark_99, vb_X12_readMark_100, xI_0, xI_1, xI_3, xI_6, xI_7, xI_8, xI_14, xI_33, xI_36, xI_37, xI_38, xI_41, xI_44, xI_49, xI_50, xI_52, xI_60, xI_61, xI_62, xw_X12_readMark_0, xw_X12_readMark_3, xw_X12_readMark_26, xw_X12_readMark_42, xw_X12_readMark_71, xw_X12_readMark_95, xw_X12_readMark_99, xw_X12_readMark_100, zw_lit, xB_c, xB_s, xB_n, i1_c, j2_c, k1_c, jJ_e, xlg, xls, xla, xpd, ppush, zw_m1, zw_m2, zw_m3, gf_12_0, gf_12_5, pf_12_5, tg_12_0, tg_12_5, gv_590_0, gv_590_5, xD1, xD2, xD3, xD4, xD5, xD6, en, e2, xb1_T, xb1_F, f, h8, z1, z2, z3, xp_ne] at h
          exact go h
        · have v0 : ¬ v = 0 := fun q => by omega
          have nx : nxF sz w (a + i) = 46 := by omega
          have h := xw_top (hd := [3]) 10 xD6_ok xc_X12_readMark xa_X12_readMark (t := 3) rfl h
          simp (maxDischargeDepth := 12) -implicitDefEqProofs [vb_X12_readMark_0, vb_X12_readMark_3, vb_X12_readMark_26, vb_X12_readMark_42, vb_X12_readMark_71, vb_X12_readMark_95, vb_X12_readMark_99, vb_X12_readMark_100, xI_0, xI_1, xI_3, xI_6, xI_7, xI_8, xI_14, xI_33, xI_36, xI_37, xI_38, xI_41, xI_44, xI_49, xI_50, xI_52, xI_60, xI_61, xI_62, xw_X12_readMark_0, xw_X12_readMark_3, xw_X12_readMark_26, xw_X12_readMark_42, xw_X12_readMark_71, xw_X12_readMark_95, xw_X12_readMark_99, xw_X12_readMark_100, zw_lit, xB_c, xB_s, xB_n, i1_c, j2_c, k1_c, jJ_e, xlg, xls, xla, xpd, ppush, zw_m1, zw_m2, zw_m3, gf_12_0, gf_12_5, pf_12_5, tg_12_0, tg_12_5, gv_590_0, gv_590_5, xD1, xD2, xD3, xD4, xD5, xD6, en, e2, xb1_T, xb1_F, f, h8, v0, nx, z1, z2, z3, xp_ne] at h
          rw [nx] at go
          exact go h
    · rw [if_neg s] at er
      rw [er]
      have f : ¬ ((48 ≤ nxF sz w (a + i) ∧ nxF sz w (a + i) ≤ 57) ∨ (65 ≤ nxF sz w (a + i) ∧ nxF sz w (a + i) ≤ 90)) := fun q => by omega
      rcases rmk_end v l w hl hi hT f s h with ⟨H', p, g⟩
      refine ⟨H', p, ?_⟩
      rw [Int.add_zero, Int.add_zero]
      rcases g with ⟨i1, g, rfl⟩ | ⟨i0, g⟩
      · refine Or.inl ⟨⟨by omega, by omega⟩, g, ?_, ⟨fun j j0 j1 => ?_, fun j j0 j1 => ?_⟩, ?_⟩
        · exact TMt_eq hT (congrFun (xp_ne (by decide)) 4) (xp_ne (by decide)) ((congrFun (xp_ne (by decide)) 5).trans e2) (by have := hT.2.2; omega)
        · rw [xp_at, if_neg (by omega)]
          exact hR.1 j j0 j1
        · rw [xp_at, if_neg j1]
          exact hR.2 j j0 j1
        · rw [xp_at, if_pos rfl]
      · exact Or.inr ⟨by omega, g⟩
set_option maxRecDepth 100000 in
/-- signs, as the model reads them -/
theorem sp_X12_readMark (v l l1 : Int) (sz a : Int) (w : Int → Int) (H : PH) (hl : 0 ≤ l ∧ l ≤ 1115) (hl1 : l1 = l + 1) (hT : TMt sz w a H) : SPEC 172 [(2, 590), (0, l), (0, l1), (0, v)] H (fun r H' => PN H H' ∧ (((1 ≤ rnF sz w v 9 a ∧ rnF sz w v 9 a ≤ 8) ∧ r = some (0, 1) ∧ TMt sz w (a + rnF sz w v 9 a) H' ∧ RMk sz w a l (rnF sz w v 9 a) (H 591) (H' 591) ∧ H' 591 l = rnF sz w v 9 a) ∨ (¬ (1 ≤ rnF sz w v 9 a ∧ rnF sz w v 9 a ≤ 8) ∧ r = some (0, 0)))) := by
  intro E n res h
  subst hl1
  have h := call_runP 5 vm_X12_readMark h
  have h := xw_top (hd := [3]) 10 xD6_ok xc_X12_readMark xa_X12_readMark (t := 0) rfl h
  simp (maxDischargeDepth := 12) -implicitDefEqProofs [vb_X12_readMark_0, vb_X12_readMark_3, vb_X12_readMark_26, vb_X12_readMark_42, vb_X12_readMark_71, vb_X12_readMark_95, vb_X12_readMark_99, vb_X12_readMark_100, xI_0, xI_1, xI_3, xI_6, xI_7, xI_8, xI_14, xI_33, xI_36, xI_37, xI_38, xI_41, xI_44, xI_49, xI_50, xI_52, xI_60, xI_61, xI_62, xw_X12_readMark_0, xw_X12_readMark_3, xw_X12_readMark_26, xw_X12_readMark_42, xw_X12_readMark_71, xw_X12_readMark_95, xw_X12_readMark_99, xw_X12_readMark_100, zw_lit, xB_c, xB_s, xB_n, i1_c, j2_c, k1_c, jJ_e, xlg, xls, xla, xpd, ppush, zw_m1, zw_m2, zw_m3, gf_12_0, gf_12_5, pf_12_5, tg_12_0, tg_12_5, gv_590_0, gv_590_5, xD1, xD2, xD3, xD4, xD5, xD6, xb1_0] at h
  obtain ⟨m, hm, h⟩ := h
  obtain ⟨H', g1, g2⟩ := lp_rmk v l sz a w (H 591) hl m 0 H (by omega) (by rw [show a + ((0 : Nat) : Int) = a by omega]; exact hT) ⟨fun j j0 j1 => by omega, fun _ _ _ => rfl⟩ h
  have e9 : (9 - 0 : Nat) = 9 := rfl
  have ea : a + ((0 : Nat) : Int) = a := by omega
  have er : ((0 : Nat) : Int) + rnF sz w v 9 a = rnF sz w v 9 a := by omega
  rw [e9, ea, er] at g2
  rcases g2 with ⟨c, g3, g4, g5, g6⟩ | ⟨c, g3⟩
  · exact ⟨_, H', g3, g1, Or.inl ⟨c, rfl, g4, g5, g6⟩⟩
  · exact ⟨_, H', g3, g1, Or.inr ⟨c, rfl⟩⟩
