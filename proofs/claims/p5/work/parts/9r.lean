/-! a line more -/
theorem TXr_ln {sz : Int} {w : Int → Int} {a : Int} {A B : Int → Int} {H H' : PH} {q : Int} (hw : ∀ i, 0 ≤ i → i < sz → 0 ≤ w i ∧ w i ≤ 255) (ha : 0 ≤ a) (h : TXr A B H) (hk : lnK sz w a B) (hq : q = H 47 (B 2)) (hF : ∀ c, ¬ c = 1 → ¬ c = q → ¬ c = 213 → H' c = H c) (h1 : ∀ i, H' 1 i = if i = 4 then B 2 + 1 else H 1 i) (hb : H' q 0 = nxF sz w (a + 1) - 48 ∧ H' q 1 = nxF sz w (a + 3) - 48 ∧ H' q 2 = (l3F sz w a).1 ∧ VM (H' q 3) (l1F sz w a) (fun i => nxF sz w (a + 5 + i)) ∧ H' q 4 = 0) : TXr A (lnR sz w a B) H' := by
  obtain ⟨⟨⟨c0, c1, c2, cr⟩, b1, b2, b3, b4⟩, cp, c, d, l, e, f, g, i⟩ := h
  have hB0 := d.1
  have hB1 := d.2.1
  have hB2 := d.2.2.1
  have n60 : B 2 < 60 := by have := hk.1; omega
  have kq : KL q := by rw [hq]; exact c.1 _ hB2.1 n60
  have lq := KL_in kq
  have e2 : lnR sz w a B 2 = B 2 + 1 := if_pos rfl
  have ej : ∀ j, ¬ j = 2 → j < 404 + 12 * B 2 → lnR sz w a B j = B j := fun j j0 j1 => lnR_o j0 (Or.inl j1) hk
  have lk := lnR_k d hk
  have e47 : H' 47 = H 47 := hF 47 (by decide) (by omega) (by decide)
  have old : ∀ k, 0 ≤ k → k < B 2 → H' (H 47 k) = H (H 47 k) ∧ H' (H 47 k + 1) = H (H 47 k + 1) := fun k k0 k1 => by
    have kk := c.1 k k0 (by omega)
    have := KL_in kk
    exact ⟨hF _ (by omega) (fun w => by have := c.2 k (B 2) k0 (by omega) hB2.1 n60 (by rw [w, hq]); omega) (by omega), hF _ (by omega) (fun w => this.2.2.1 (by rw [w]; exact kq)) (by omega)⟩
  have hA : ∀ x y, chA B x y = chA (lnR sz w a B) x y := fun x y => chA_cp (ej 1 (by decide) (by omega)).symm (fun i i0 i1 => ⟨(ej _ (by omega) (by omega)).symm, (ej _ (by omega) (by omega)).symm⟩) x y
  have oB : ∀ x, 0 ≤ x → x < B 0 → EB B (lnR sz w a B) (92 + 26 * x) := fun x x0 x1 => EB_out (fun i i0 i1 => (ej i (by omega) (by omega)).symm) (d.2.2.2.1 x x0 (by omega)).2 (d.2.2.2.2.1 x x0 (by omega)).2
  have oL : ∀ k, 0 ≤ k → k < B 2 → EL B (lnR sz w a B) (404 + 12 * k) := fun k k0 k1 => EL_out (fun i i0 i1 => (ej i (by omega) (by omega)).symm) (d.2.2.2.2.2.1 k k0 (by omega)).2
  refine ⟨⟨⟨?_, ?_, ?_, ?_⟩, fun x x0 x1 => ?_, fun k k0 k1 => ?_, fun x y x0 x1 y0 y1 => ?_, ?_⟩, ?_, ?_, MB_ln hw ha d hk, ?_, fun k k0 k1 => ?_, fun w k k0 k1 => ?_, ?_, i⟩
  · rw [ej 0 (by decide) (by omega), h1, if_neg (by decide)]
    exact c0
  · rw [ej 1 (by decide) (by omega), hF 2 (by decide) (by omega) (by decide)]
    exact c1
  · rw [e2, h1, if_pos rfl]
  · simp only [h1, ej 3 (by decide) (by omega), ej 4 (by decide) (by omega), ej 5 (by decide) (by omega), ej 6 (by decide) (by omega), ej 7 (by decide) (by omega), ej 8 (by decide) (by omega), ej 9 (by decide) (by omega)]
    exact cr
  · rw [ej 0 (by decide) (by omega)] at x1
    have gx := BRr_EQ (b1 x x0 x1) (oB x x0 x1)
    unfold BRr at gx ⊢
    rw [hF (57 + 3 * x) (by omega) (by omega) (by omega), hF (57 + 3 * x + 1) (by omega) (by omega) (by omega), hF (57 + 3 * x + 2) (by omega) (by omega) (by omega)]
    exact gx
  · rw [e2] at k1
    by_cases z : k = B 2
    · rw [z, e47, ← hq]
      obtain ⟨s1, s2, s3, s4, s5⟩ := lk
      obtain ⟨t1, t2, t3, t4, t5⟩ := hb
      exact ⟨by rw [s1, t1], by rw [s2, t2], by rw [s3, t3], VM_congr t4 s4.symm (fun i i0 i1 => (s5 i i0 i1).symm)⟩
    · have gx := LNr_EQ (b2 k k0 (by omega)) (oL k k0 (by omega))
      unfold LNr at gx ⊢
      rw [e47, (old k k0 (by omega)).1]
      exact gx
  · rw [hF (4 + x) (by omega) (by omega) (by omega), b3 x y x0 x1 y0 y1]
    exact hA _ _
  · have kw := b4.1
    have nw := KWz kw
    have no := KW_no kw
    obtain ⟨w0, w1, w2, w3⟩ := b4
    have e5 : H' 1 5 = H 1 5 := by rw [h1, if_neg (by decide)]
    unfold LWr
    rw [e5, hF (H 1 5) (by omega) (fun w => no.2.2.2.2.1 (w ▸ kq)) (by omega), hF (H 1 5 + 1) (by omega) (fun w => no.2.2.2.2.2.1 (w ▸ kq)) (by omega), ej 10 (by decide) (by omega), ej 11 (by decide) (by omega)]
    exact ⟨w0, w1, w2, fun k k0 k1 => by rw [ej (12 + k) (by omega) (by omega)]; exact w3 k k0 k1⟩
  · unfold CPr mtC at cp ⊢
    rw [hF 42 (by decide) (by omega) (by decide), hF 43 (by decide) (by omega) (by decide), ej 1 (by decide) (by omega)]
    refine ⟨fun j j0 j1 => ?_, cp.2⟩
    rw [ej (76 + 2 * j) (by omega) (by omega), ej (76 + 2 * j + 1) (by omega) (by omega)]
    exact cp.1 j j0 j1
  · unfold LDi
    rw [e47]
    exact c
  · rw [ej 11 (by decide) (by omega)]
    exact l
  · rw [e2] at k1
    rw [e47, ej 0 (by decide) (by omega)]
    by_cases z : k = B 2
    · rw [z, ← hq, hb.2.2.2.2]
      omega
    · rw [(old k k0 (by omega)).1]
      exact e k k0 (by omega)
  · rw [e2] at k1
    rw [ej 1 (by decide) (by omega)] at w
    rw [e47, ej 0 (by decide) (by omega)]
    by_cases z : k = B 2
    · rw [z, ← hq, hb.2.2.2.2]
      exact ⟨by omega, fun x x0 x1 => by omega⟩
    · obtain ⟨g0, g1⟩ := f w k k0 (by omega)
      rw [(old k k0 (by omega)).1, (old k k0 (by omega)).2]
      refine ⟨g0, fun x x0 x1 x2 => ?_⟩
      rw [g1 x x0 x1 x2]
      exact lapA_EQ hA (d.2.2.2.1 x x0 (by omega)).1 (oB x x0 x2) (oL k k0 (by omega))
  · obtain ⟨g0, g1, g2, g3, g4, g5⟩ := g
    have a1 := i.2.1
    have a0 := i.1
    refine ⟨by rw [ej 0 (by decide) (by omega)]; exact g0, by rw [ej 1 (by decide) (by omega)]; exact g1, by omega, fun j j0 j1 => ?_, fun j j0 j1 => ?_, fun j j0 j1 => ?_⟩
    · rw [ej j (by omega) (by omega)]
      exact g3 j j0 j1
    · rw [ej j (by omega) (by omega)]
      exact g4 j j0 j1
    · rw [ej j (by omega) (by omega)]
      exact g5 j j0 j1
theorem l1_8 {sz : Int} {w : Int → Int} {a : Int} {t : Nat} (ht : rnF sz w 1 8 (a + 5) = t) (h : ¬ ((48 ≤ nxF sz w (a + 5 + t) ∧ nxF sz w (a + 5 + t) ≤ 57) ∨ (65 ≤ nxF sz w (a + 5 + t) ∧ nxF sz w (a + 5 + t) ≤ 90) ∨ nxF sz w (a + 5 + t) = 46)) : (t : Int) = l1F sz w a ∧ a + 5 + (t : Int) = l2F sz w a := by
  have r8 := rn8 sz w 1 (a + 5)
  have r9 := rnF_in sz w 1 9 (a + 5)
  have e : l1F sz w a = rnF sz w 1 9 (a + 5) := rfl
  have l9 : rnF sz w 1 9 (a + 5) ≤ 8 := by
    by_cases l : rnF sz w 1 9 (a + 5) ≤ 8
    · exact l
    · exfalso
      have := (rnF_sg sz w 1 9 (a + 5) 8 (by decide) (by omega)).2
      have t8 : (t : Int) = 8 := by omega
      rw [t8] at h
      omega
  refine ⟨by omega, ?_⟩
  unfold l2F
  omega
theorem lnf108 {E : xE} {res : xR} {n : Nat} {x2 x3 x4 x5 x6 x7 : Int} {H : PH} (h : xJ E res n kd_X1_takeLine 108 [1, 213, x2, x3, x4, x5, x6, x7] [(0, 0)] H) : REPR E res (some (0, 0)) H := by
  obtain ⟨m, hm, h⟩ := h
  have h := xw_top (hd := [57, 81, 108]) 12 xD6_ok xc_X1_takeLine xa_X1_takeLine (t := 108) rfl h
  simp (maxDischargeDepth := 12) -implicitDefEqProofs [vb_X1_takeLine_0, vb_X1_takeLine_18, vb_X1_takeLine_56, vb_X1_takeLine_57, vb_X1_takeLine_80, vb_X1_takeLine_81, vb_X1_takeLine_107, vb_X1_takeLine_108, vb_X1_takeLine_124, vb_X1_takeLine_126, xI_0, xI_1, xI_2, xI_3, xI_4, xI_5, xI_7, xI_8, xI_12, xI_14, xI_32, xI_33, xI_36, xI_37, xI_38, xI_43, xI_45, xI_49, xI_50, xI_53, xI_61, xI_62, xw_X1_takeLine_0, xw_X1_takeLine_18, xw_X1_takeLine_56, xw_X1_takeLine_57, xw_X1_takeLine_80, xw_X1_takeLine_81, xw_X1_takeLine_107, xw_X1_takeLine_108, xw_X1_takeLine_124, xw_X1_takeLine_126, zw_lit, xB_c, xB_s, xB_n, i1_c, j2_c, k1_c, jJ_e, xlg, xls, xla, xpd, ppush, zw_m1, zw_m2, zw_m3, gf_1_3, gf_1_4, gf_10_2, pf_1_4, pf_5_0, pf_5_1, pf_5_2, pf_5_4, pf_5_67, pf_10_2, tg_10_2, tg_1_3, tg_1_4, tg_5_0, tg_5_1, tg_5_2, tg_5_3, tg_5_4, gv_1_3, gv_1_4, gv_213_2, xD1, xD2, xD3, xD4, xD5, xD6, xb1_0] at h
  exact h
theorem lnf81 {E : xE} {res : xR} {n : Nat} {x2 x3 x4 x5 x6 x7 : Int} {H : PH} (h : xJ E res n kd_X1_takeLine 81 [1, 213, x2, x3, x4, x5, x6, x7] [(1, 0)] H) : REPR E res (some (0, 0)) H := by
  obtain ⟨m, hm, h⟩ := h
  have q0 : qlcmp 0 0 = 0 := (qlcmp_0 (by decide) (by decide)).mpr rfl
  have h := xw_top (hd := [57, 81, 108]) 12 xD6_ok xc_X1_takeLine xa_X1_takeLine (t := 81) rfl h
  simp (maxDischargeDepth := 12) -implicitDefEqProofs [vb_X1_takeLine_0, vb_X1_takeLine_18, vb_X1_takeLine_56, vb_X1_takeLine_57, vb_X1_takeLine_80, vb_X1_takeLine_81, vb_X1_takeLine_107, vb_X1_takeLine_108, vb_X1_takeLine_124, vb_X1_takeLine_126, xI_0, xI_1, xI_2, xI_3, xI_4, xI_5, xI_7, xI_8, xI_12, xI_14, xI_32, xI_33, xI_36, xI_37, xI_38, xI_43, xI_45, xI_49, xI_50, xI_53, xI_61, xI_62, xw_X1_takeLine_0, xw_X1_takeLine_18, xw_X1_takeLine_56, xw_X1_takeLine_57, xw_X1_takeLine_80, xw_X1_takeLine_81, xw_X1_takeLine_107, xw_X1_takeLine_108, xw_X1_takeLine_124, xw_X1_takeLine_126, zw_lit, xB_c, xB_s, xB_n, i1_c, j2_c, k1_c, jJ_e, xlg, xls, xla, xpd, ppush, zw_m1, zw_m2, zw_m3, gf_1_3, gf_1_4, gf_10_2, pf_1_4, pf_5_0, pf_5_1, pf_5_2, pf_5_4, pf_5_67, pf_10_2, tg_10_2, tg_1_3, tg_1_4, tg_5_0, tg_5_1, tg_5_2, tg_5_3, tg_5_4, gv_1_3, gv_1_4, gv_213_2, xD1, xD2, xD3, xD4, xD5, xD6, xb1_0, q0] at h
  exact lnf108 h
theorem lnf57 {E : xE} {res : xR} {n : Nat} {x2 x3 x4 x5 x6 x7 : Int} {H : PH} (h : xJ E res n kd_X1_takeLine 57 [1, 213, x2, x3, x4, x5, x6, x7] [(0, -1)] H) : REPR E res (some (0, 0)) H := by
  obtain ⟨m, hm, h⟩ := h
  have h := xw_top (hd := [57, 81, 108]) 12 xD6_ok xc_X1_takeLine xa_X1_takeLine (t := 57) rfl h
  simp (maxDischargeDepth := 12) -implicitDefEqProofs [vb_X1_takeLine_0, vb_X1_takeLine_18, vb_X1_takeLine_56, vb_X1_takeLine_57, vb_X1_takeLine_80, vb_X1_takeLine_81, vb_X1_takeLine_107, vb_X1_takeLine_108, vb_X1_takeLine_124, vb_X1_takeLine_126, xI_0, xI_1, xI_2, xI_3, xI_4, xI_5, xI_7, xI_8, xI_12, xI_14, xI_32, xI_33, xI_36, xI_37, xI_38, xI_43, xI_45, xI_49, xI_50, xI_53, xI_61, xI_62, xw_X1_takeLine_0, xw_X1_takeLine_18, xw_X1_takeLine_56, xw_X1_takeLine_57, xw_X1_takeLine_80, xw_X1_takeLine_81, xw_X1_takeLine_107, xw_X1_takeLine_108, xw_X1_takeLine_124, xw_X1_takeLine_126, zw_lit, xB_c, xB_s, xB_n, i1_c, j2_c, k1_c, jJ_e, xlg, xls, xla, xpd, ppush, zw_m1, zw_m2, zw_m3, gf_1_3, gf_1_4, gf_10_2, pf_1_4, pf_5_0, pf_5_1, pf_5_2, pf_5_4, pf_5_67, pf_10_2, tg_10_2, tg_1_3, tg_1_4, tg_5_0, tg_5_1, tg_5_2, tg_5_3, tg_5_4, gv_1_3, gv_1_4, gv_213_2, xD1, xD2, xD3, xD4, xD5, xD6, xb1_0] at h
  exact lnf81 h
set_option maxRecDepth 100000 in
theorem sp_X1_takeLine (sz a : Int) (w : Int → Int) (A B : Int → Int) (H : PH) (hT : TP sz w a H) (ha : a < sz) (hw : ∀ i, 0 ≤ i → i < sz → 0 ≤ w i ∧ w i ≤ 255) (hX : TXr A B H) : SPEC 10 [(2, 1), (2, 213)] H (fun r H' => FXt A H H' ∧ ((lnK sz w a B ∧ r = some (0, 1) ∧ TP sz w (lnE sz w a) H' ∧ TXr A (lnR sz w a B) H') ∨ (¬ lnK sz w a B ∧ r = some (0, 0) ∧ TXr A B H'))) := by
  intro E n res h
  obtain ⟨⟨⟨-, -, c2, -⟩, -⟩, -, hD, hB, -, -, -, hE, -⟩ := id hX
  have hB2 := hB.2.2.1
  have e2 := hT.2.2.1
  have bd := hT.2.2
  have bad : ∀ H' : PH, PF H H' → ¬ lnK sz w a B → REPR E res (some (0, 0)) H' → ∃ r H', REPR E res r H' ∧ FXt A H H' ∧ ((lnK sz w a B ∧ r = some (0, 1) ∧ TP sz w (lnE sz w a) H' ∧ TXr A (lnR sz w a B) H') ∨ (¬ lnK sz w a B ∧ r = some (0, 0) ∧ TXr A B H')) := fun H' p k g => ⟨_, H', g, FXt_PF p, Or.inr ⟨k, rfl, TXr_PF hX p⟩⟩
  by_cases n60 : B 2 = 60
  · have q : ¬ H 1 4 < 60 := by omega
    have q' : 60 ≤ H 1 4 := by omega
    have h := call_runP 8 vm_X1_takeLine h
    have h := xw_top (hd := [57, 81, 108]) 12 xD6_ok xc_X1_takeLine xa_X1_takeLine (t := 0) rfl h
    simp (maxDischargeDepth := 12) -implicitDefEqProofs [vb_X1_takeLine_0, vb_X1_takeLine_18, vb_X1_takeLine_56, vb_X1_takeLine_57, vb_X1_takeLine_80, vb_X1_takeLine_81, vb_X1_takeLine_107, vb_X1_takeLine_108, vb_X1_takeLine_124, vb_X1_takeLine_126, xI_0, xI_1, xI_2, xI_3, xI_4, xI_5, xI_7, xI_8, xI_12, xI_14, xI_32, xI_33, xI_36, xI_37, xI_38, xI_43, xI_45, xI_49, xI_50, xI_53, xI_61, xI_62, xw_X1_takeLine_0, xw_X1_takeLine_18, xw_X1_takeLine_56, xw_X1_takeLine_57, xw_X1_takeLine_80, xw_X1_takeLine_81, xw_X1_takeLine_107, xw_X1_takeLine_108, xw_X1_takeLine_124, xw_X1_takeLine_126, zw_lit, xB_c, xB_s, xB_n, i1_c, j2_c, k1_c, jJ_e, xlg, xls, xla, xpd, ppush, zw_m1, zw_m2, zw_m3, gf_1_3, gf_1_4, gf_10_2, pf_1_4, pf_5_0, pf_5_1, pf_5_2, pf_5_4, pf_5_67, pf_10_2, tg_10_2, tg_1_3, tg_1_4, tg_5_0, tg_5_1, tg_5_2, tg_5_3, tg_5_4, gv_1_3, gv_1_4, gv_213_2, xD1, xD2, xD3, xD4, xD5, xD6, xb1_0, q, q'] at h
    obtain ⟨r, H2, ⟨rfl, rfl⟩, h⟩ := xc_use h (sp_X10_fail _ H)
    simp (maxDischargeDepth := 12) -implicitDefEqProofs [vb_X1_takeLine_0, vb_X1_takeLine_18, vb_X1_takeLine_56, vb_X1_takeLine_57, vb_X1_takeLine_80, vb_X1_takeLine_81, vb_X1_takeLine_107, vb_X1_takeLine_108, vb_X1_takeLine_124, vb_X1_takeLine_126, xI_0, xI_1, xI_2, xI_3, xI_4, xI_5, xI_7, xI_8, xI_12, xI_14, xI_32, xI_33, xI_36, xI_37, xI_38, xI_43, xI_45, xI_49, xI_50, xI_53, xI_61, xI_62, xw_X1_takeLine_0, xw_X1_takeLine_18, xw_X1_takeLine_56, xw_X1_takeLine_57, xw_X1_takeLine_80, xw_X1_takeLine_81, xw_X1_takeLine_107, xw_X1_takeLine_108, xw_X1_takeLine_124, xw_X1_takeLine_126, zw_lit, xB_c, xB_s, xB_n, i1_c, j2_c, k1_c, jJ_e, xlg, xls, xla, xpd, ppush, zw_m1, zw_m2, zw_m3, gf_1_3, gf_1_4, gf_10_2, pf_1_4, pf_5_0, pf_5_1, pf_5_2, pf_5_4, pf_5_67, pf_10_2, tg_10_2, tg_1_3, tg_1_4, tg_5_0, tg_5_1, tg_5_2, tg_5_3, tg_5_4, gv_1_3, gv_1_4, gv_213_2, xD1, xD2, xD3, xD4, xD5, xD6, xb1_0] at h
    exact bad _ (PF_up (Or.inr rfl)) (fun k => k.1 n60) h
  · have q : H 1 4 < 60 := by omega
    have q' : ¬ 60 ≤ H 1 4 := by omega
    have z1 : zw (a + 1) = a + 1 := zw_lit (by omega) (by omega)
    have h := call_runP 8 vm_X1_takeLine h
    have h := xw_top (hd := [57, 81, 108]) 12 xD6_ok xc_X1_takeLine xa_X1_takeLine (t := 0) rfl h
    simp (maxDischargeDepth := 12) -implicitDefEqProofs [vb_X1_takeLine_0, vb_X1_takeLine_18, vb_X1_takeLine_56, vb_X1_takeLine_57, vb_X1_takeLine_80, vb_X1_takeLine_81, vb_X1_takeLine_107, vb_X1_takeLine_108, vb_X1_takeLine_124, vb_X1_takeLine_126, xI_0, xI_1, xI_2, xI_3, xI_4, xI_5, xI_7, xI_8, xI_12, xI_14, xI_32, xI_33, xI_36, xI_37, xI_38, xI_43, xI_45, xI_49, xI_50, xI_53, xI_61, xI_62, xw_X1_takeLine_0, xw_X1_takeLine_18, xw_X1_takeLine_56, xw_X1_takeLine_57, xw_X1_takeLine_80, xw_X1_takeLine_81, xw_X1_takeLine_107, xw_X1_takeLine_108, xw_X1_takeLine_124, xw_X1_takeLine_126, zw_lit, xB_c, xB_s, xB_n, i1_c, j2_c, k1_c, jJ_e, xlg, xls, xla, xpd, ppush, zw_m1, zw_m2, zw_m3, gf_1_3, gf_1_4, gf_10_2, pf_1_4, pf_5_0, pf_5_1, pf_5_2, pf_5_4, pf_5_67, pf_10_2, tg_10_2, tg_1_3, tg_1_4, tg_5_0, tg_5_1, tg_5_2, tg_5_3, tg_5_4, gv_1_3, gv_1_4, gv_213_2, xD1, xD2, xD3, xD4, xD5, xD6, xb1_0, q, q', e2, z1, xp_at] at h
    obtain ⟨r, H1, ⟨p1, g1⟩, h⟩ := xc_use h (sp_X10_digitUpTo 1 sz (a + 1) w _ (TP_up hT ha) (by decide) hw)
    have p1 := PF_trans (PF_up (Or.inl rfl)) p1
    rcases g1 with ⟨k1, rfl, t1⟩ | ⟨k1, rfl⟩
    · have ne1 : ¬ nxF sz w (a + 1) - 48 = -1 := by omega
      simp (maxDischargeDepth := 12) -implicitDefEqProofs [vb_X1_takeLine_0, vb_X1_takeLine_18, vb_X1_takeLine_56, vb_X1_takeLine_57, vb_X1_takeLine_80, vb_X1_takeLine_81, vb_X1_takeLine_107, vb_X1_takeLine_108, vb_X1_takeLine_124, vb_X1_takeLine_126, xI_0, xI_1, xI_2, xI_3, xI_4, xI_5, xI_7, xI_8, xI_12, xI_14, xI_32, xI_33, xI_36, xI_37, xI_38, xI_43, xI_45, xI_49, xI_50, xI_53, xI_61, xI_62, xw_X1_takeLine_0, xw_X1_takeLine_18, xw_X1_takeLine_56, xw_X1_takeLine_57, xw_X1_takeLine_80, xw_X1_takeLine_81, xw_X1_takeLine_107, xw_X1_takeLine_108, xw_X1_takeLine_124, xw_X1_takeLine_126, zw_lit, xB_c, xB_s, xB_n, i1_c, j2_c, k1_c, jJ_e, xlg, xls, xla, xpd, ppush, zw_m1, zw_m2, zw_m3, gf_1_3, gf_1_4, gf_10_2, pf_1_4, pf_5_0, pf_5_1, pf_5_2, pf_5_4, pf_5_67, pf_10_2, tg_10_2, tg_1_3, tg_1_4, tg_5_0, tg_5_1, tg_5_2, tg_5_3, tg_5_4, gv_1_3, gv_1_4, gv_213_2, xD1, xD2, xD3, xD4, xD5, xD6, xb1_0, ne1] at h
      obtain ⟨r, H2, ⟨p2, g2⟩, h⟩ := xc_use h (sp_X10_skip 64 sz _ w _ t1 (by decide))
      have p2 := PF_trans p1 p2
      rw [show a + 1 + 1 = a + 2 by omega] at g2
      rcases g2 with ⟨k2, rfl, t2⟩ | ⟨k2, rfl⟩
      · simp (maxDischargeDepth := 12) -implicitDefEqProofs [vb_X1_takeLine_0, vb_X1_takeLine_18, vb_X1_takeLine_56, vb_X1_takeLine_57, vb_X1_takeLine_80, vb_X1_takeLine_81, vb_X1_takeLine_107, vb_X1_takeLine_108, vb_X1_takeLine_124, vb_X1_takeLine_126, xI_0, xI_1, xI_2, xI_3, xI_4, xI_5, xI_7, xI_8, xI_12, xI_14, xI_32, xI_33, xI_36, xI_37, xI_38, xI_43, xI_45, xI_49, xI_50, xI_53, xI_61, xI_62, xw_X1_takeLine_0, xw_X1_takeLine_18, xw_X1_takeLine_56, xw_X1_takeLine_57, xw_X1_takeLine_80, xw_X1_takeLine_81, xw_X1_takeLine_107, xw_X1_takeLine_108, xw_X1_takeLine_124, xw_X1_takeLine_126, zw_lit, xB_c, xB_s, xB_n, i1_c, j2_c, k1_c, jJ_e, xlg, xls, xla, xpd, ppush, zw_m1, zw_m2, zw_m3, gf_1_3, gf_1_4, gf_10_2, pf_1_4, pf_5_0, pf_5_1, pf_5_2, pf_5_4, pf_5_67, pf_10_2, tg_10_2, tg_1_3, tg_1_4, tg_5_0, tg_5_1, tg_5_2, tg_5_3, tg_5_4, gv_1_3, gv_1_4, gv_213_2, xD1, xD2, xD3, xD4, xD5, xD6, xb1_0] at h
        obtain ⟨r, H3, ⟨p3, g3⟩, h⟩ := xc_use h (sp_X10_digitUpTo 4 sz _ w _ t2 (by decide) hw)
        have p3 := PF_trans p2 p3
        rw [show a + 2 + 1 = a + 3 by omega] at g3
        rcases g3 with ⟨k3, rfl, t3⟩ | ⟨k3, rfl⟩
        · have ne3 : ¬ nxF sz w (a + 3) - 48 = -1 := by omega
          simp (maxDischargeDepth := 12) -implicitDefEqProofs [vb_X1_takeLine_0, vb_X1_takeLine_18, vb_X1_takeLine_56, vb_X1_takeLine_57, vb_X1_takeLine_80, vb_X1_takeLine_81, vb_X1_takeLine_107, vb_X1_takeLine_108, vb_X1_takeLine_124, vb_X1_takeLine_126, xI_0, xI_1, xI_2, xI_3, xI_4, xI_5, xI_7, xI_8, xI_12, xI_14, xI_32, xI_33, xI_36, xI_37, xI_38, xI_43, xI_45, xI_49, xI_50, xI_53, xI_61, xI_62, xw_X1_takeLine_0, xw_X1_takeLine_18, xw_X1_takeLine_56, xw_X1_takeLine_57, xw_X1_takeLine_80, xw_X1_takeLine_81, xw_X1_takeLine_107, xw_X1_takeLine_108, xw_X1_takeLine_124, xw_X1_takeLine_126, zw_lit, xB_c, xB_s, xB_n, i1_c, j2_c, k1_c, jJ_e, xlg, xls, xla, xpd, ppush, zw_m1, zw_m2, zw_m3, gf_1_3, gf_1_4, gf_10_2, pf_1_4, pf_5_0, pf_5_1, pf_5_2, pf_5_4, pf_5_67, pf_10_2, tg_10_2, tg_1_3, tg_1_4, tg_5_0, tg_5_1, tg_5_2, tg_5_3, tg_5_4, gv_1_3, gv_1_4, gv_213_2, xD1, xD2, xD3, xD4, xD5, xD6, xb1_0] at h
          obtain ⟨m3, hm3, h⟩ := h
          have h := xw_top (hd := [57, 81, 108]) 12 xD6_ok xc_X1_takeLine xa_X1_takeLine (t := 57) rfl h
          simp (maxDischargeDepth := 12) -implicitDefEqProofs [vb_X1_takeLine_0, vb_X1_takeLine_18, vb_X1_takeLine_56, vb_X1_takeLine_57, vb_X1_takeLine_80, vb_X1_takeLine_81, vb_X1_takeLine_107, vb_X1_takeLine_108, vb_X1_takeLine_124, vb_X1_takeLine_126, xI_0, xI_1, xI_2, xI_3, xI_4, xI_5, xI_7, xI_8, xI_12, xI_14, xI_32, xI_33, xI_36, xI_37, xI_38, xI_43, xI_45, xI_49, xI_50, xI_53, xI_61, xI_62, xw_X1_takeLine_0, xw_X1_takeLine_18, xw_X1_takeLine_56, xw_X1_takeLine_57, xw_X1_takeLine_80, xw_X1_takeLine_81, xw_X1_takeLine_107, xw_X1_takeLine_108, xw_X1_takeLine_124, xw_X1_takeLine_126, zw_lit, xB_c, xB_s, xB_n, i1_c, j2_c, k1_c, jJ_e, xlg, xls, xla, xpd, ppush, zw_m1, zw_m2, zw_m3, gf_1_3, gf_1_4, gf_10_2, pf_1_4, pf_5_0, pf_5_1, pf_5_2, pf_5_4, pf_5_67, pf_10_2, tg_10_2, tg_1_3, tg_1_4, tg_5_0, tg_5_1, tg_5_2, tg_5_3, tg_5_4, gv_1_3, gv_1_4, gv_213_2, xD1, xD2, xD3, xD4, xD5, xD6, xb1_0, ne3] at h
          obtain ⟨r, H4, ⟨p4, g4⟩, h⟩ := xc_use h (sp_X10_skip 58 sz _ w _ t3 (by decide))
          have p4 := PF_trans p3 p4
          rw [show a + 3 + 1 = a + 4 by omega] at g4
          rcases g4 with ⟨k4, rfl, t4⟩ | ⟨k4, rfl⟩
          · simp (maxDischargeDepth := 12) -implicitDefEqProofs [vb_X1_takeLine_0, vb_X1_takeLine_18, vb_X1_takeLine_56, vb_X1_takeLine_57, vb_X1_takeLine_80, vb_X1_takeLine_81, vb_X1_takeLine_107, vb_X1_takeLine_108, vb_X1_takeLine_124, vb_X1_takeLine_126, xI_0, xI_1, xI_2, xI_3, xI_4, xI_5, xI_7, xI_8, xI_12, xI_14, xI_32, xI_33, xI_36, xI_37, xI_38, xI_43, xI_45, xI_49, xI_50, xI_53, xI_61, xI_62, xw_X1_takeLine_0, xw_X1_takeLine_18, xw_X1_takeLine_56, xw_X1_takeLine_57, xw_X1_takeLine_80, xw_X1_takeLine_81, xw_X1_takeLine_107, xw_X1_takeLine_108, xw_X1_takeLine_124, xw_X1_takeLine_126, zw_lit, xB_c, xB_s, xB_n, i1_c, j2_c, k1_c, jJ_e, xlg, xls, xla, xpd, ppush, zw_m1, zw_m2, zw_m3, gf_1_3, gf_1_4, gf_10_2, pf_1_4, pf_5_0, pf_5_1, pf_5_2, pf_5_4, pf_5_67, pf_10_2, tg_10_2, tg_1_3, tg_1_4, tg_5_0, tg_5_1, tg_5_2, tg_5_3, tg_5_4, gv_1_3, gv_1_4, gv_213_2, xD1, xD2, xD3, xD4, xD5, xD6, xb1_0] at h
            obtain ⟨r, H5, ⟨p5, rfl, t5⟩, h⟩ := xc_use h (sp_X10_signs 1 sz _ w _ t4)
            have p5 := PF_trans p4 p5
            rw [show a + 4 + 1 = a + 5 by omega] at h t5
            have r8 := rn8 sz w 1 (a + 5)
            have r9 := rnF_in sz w 1 9 (a + 5)
            have eb1 : l1F sz w a = rnF sz w 1 9 (a + 5) := rfl
            obtain ⟨t, ht⟩ : ∃ t : Nat, rnF sz w 1 8 (a + 5) = t := ⟨(rnF sz w 1 8 (a + 5)).toNat, by omega⟩
            rw [ht] at h t5
            rw [Int.toNat_natCast] at h
            obtain ⟨m0, m1, m2, m3⟩ := mrk_in (sz := sz) (w := w) (v := 1) (a := a + 5) (n := t) (by omega)
            have q0 : qlcmp (mrk sz w 1 (a + 5) t) 0 = 0 ↔ t = 0 := (qlcmp_0 ⟨m0, by omega⟩ (by decide)).trans m3
            by_cases t0 : t = 0
            · have q1 := q0.mpr t0
              simp (maxDischargeDepth := 12) -implicitDefEqProofs [vb_X1_takeLine_0, vb_X1_takeLine_18, vb_X1_takeLine_56, vb_X1_takeLine_57, vb_X1_takeLine_80, vb_X1_takeLine_81, vb_X1_takeLine_107, vb_X1_takeLine_108, vb_X1_takeLine_124, vb_X1_takeLine_126, xI_0, xI_1, xI_2, xI_3, xI_4, xI_5, xI_7, xI_8, xI_12, xI_14, xI_32, xI_33, xI_36, xI_37, xI_38, xI_43, xI_45, xI_49, xI_50, xI_53, xI_61, xI_62, xw_X1_takeLine_0, xw_X1_takeLine_18, xw_X1_takeLine_56, xw_X1_takeLine_57, xw_X1_takeLine_80, xw_X1_takeLine_81, xw_X1_takeLine_107, xw_X1_takeLine_108, xw_X1_takeLine_124, xw_X1_takeLine_126, zw_lit, xB_c, xB_s, xB_n, i1_c, j2_c, k1_c, jJ_e, xlg, xls, xla, xpd, ppush, zw_m1, zw_m2, zw_m3, gf_1_3, gf_1_4, gf_10_2, pf_1_4, pf_5_0, pf_5_1, pf_5_2, pf_5_4, pf_5_67, pf_10_2, tg_10_2, tg_1_3, tg_1_4, tg_5_0, tg_5_1, tg_5_2, tg_5_3, tg_5_4, gv_1_3, gv_1_4, gv_213_2, xD1, xD2, xD3, xD4, xD5, xD6, xb1_0] at h
              obtain ⟨m5, hm5, h⟩ := h
              have h := xw_top (hd := [57, 81, 108]) 12 xD6_ok xc_X1_takeLine xa_X1_takeLine (t := 81) rfl h
              simp (maxDischargeDepth := 12) -implicitDefEqProofs [vb_X1_takeLine_0, vb_X1_takeLine_18, vb_X1_takeLine_56, vb_X1_takeLine_57, vb_X1_takeLine_80, vb_X1_takeLine_81, vb_X1_takeLine_107, vb_X1_takeLine_108, vb_X1_takeLine_124, vb_X1_takeLine_126, xI_0, xI_1, xI_2, xI_3, xI_4, xI_5, xI_7, xI_8, xI_12, xI_14, xI_32, xI_33, xI_36, xI_37, xI_38, xI_43, xI_45, xI_49, xI_50, xI_53, xI_61, xI_62, xw_X1_takeLine_0, xw_X1_takeLine_18, xw_X1_takeLine_56, xw_X1_takeLine_57, xw_X1_takeLine_80, xw_X1_takeLine_81, xw_X1_takeLine_107, xw_X1_takeLine_108, xw_X1_takeLine_124, xw_X1_takeLine_126, zw_lit, xB_c, xB_s, xB_n, i1_c, j2_c, k1_c, jJ_e, xlg, xls, xla, xpd, ppush, zw_m1, zw_m2, zw_m3, gf_1_3, gf_1_4, gf_10_2, pf_1_4, pf_5_0, pf_5_1, pf_5_2, pf_5_4, pf_5_67, pf_10_2, tg_10_2, tg_1_3, tg_1_4, tg_5_0, tg_5_1, tg_5_2, tg_5_3, tg_5_4, gv_1_3, gv_1_4, gv_213_2, xD1, xD2, xD3, xD4, xD5, xD6, xb1_0, q1] at h
              have h := lnf108 h
              exact bad _ p5 (fun k => by have := k.2.2.2.2.2.1; omega) h
            · have q1 : ¬ qlcmp (mrk sz w 1 (a + 5) t) 0 = 0 := fun q => t0 (q0.mp q)
              simp (maxDischargeDepth := 12) -implicitDefEqProofs [vb_X1_takeLine_0, vb_X1_takeLine_18, vb_X1_takeLine_56, vb_X1_takeLine_57, vb_X1_takeLine_80, vb_X1_takeLine_81, vb_X1_takeLine_107, vb_X1_takeLine_108, vb_X1_takeLine_124, vb_X1_takeLine_126, xI_0, xI_1, xI_2, xI_3, xI_4, xI_5, xI_7, xI_8, xI_12, xI_14, xI_32, xI_33, xI_36, xI_37, xI_38, xI_43, xI_45, xI_49, xI_50, xI_53, xI_61, xI_62, xw_X1_takeLine_0, xw_X1_takeLine_18, xw_X1_takeLine_56, xw_X1_takeLine_57, xw_X1_takeLine_80, xw_X1_takeLine_81, xw_X1_takeLine_107, xw_X1_takeLine_108, xw_X1_takeLine_124, xw_X1_takeLine_126, zw_lit, xB_c, xB_s, xB_n, i1_c, j2_c, k1_c, jJ_e, xlg, xls, xla, xpd, ppush, zw_m1, zw_m2, zw_m3, gf_1_3, gf_1_4, gf_10_2, pf_1_4, pf_5_0, pf_5_1, pf_5_2, pf_5_4, pf_5_67, pf_10_2, tg_10_2, tg_1_3, tg_1_4, tg_5_0, tg_5_1, tg_5_2, tg_5_3, tg_5_4, gv_1_3, gv_1_4, gv_213_2, xD1, xD2, xD3, xD4, xD5, xD6, xb1_0] at h
              obtain ⟨m5, hm5, h⟩ := h
              have h := xw_top (hd := [57, 81, 108]) 12 xD6_ok xc_X1_takeLine xa_X1_takeLine (t := 81) rfl h
              simp (maxDischargeDepth := 12) -implicitDefEqProofs [vb_X1_takeLine_0, vb_X1_takeLine_18, vb_X1_takeLine_56, vb_X1_takeLine_57, vb_X1_takeLine_80, vb_X1_takeLine_81, vb_X1_takeLine_107, vb_X1_takeLine_108, vb_X1_takeLine_124, vb_X1_takeLine_126, xI_0, xI_1, xI_2, xI_3, xI_4, xI_5, xI_7, xI_8, xI_12, xI_14, xI_32, xI_33, xI_36, xI_37, xI_38, xI_43, xI_45, xI_49, xI_50, xI_53, xI_61, xI_62, xw_X1_takeLine_0, xw_X1_takeLine_18, xw_X1_takeLine_56, xw_X1_takeLine_57, xw_X1_takeLine_80, xw_X1_takeLine_81, xw_X1_takeLine_107, xw_X1_takeLine_108, xw_X1_takeLine_124, xw_X1_takeLine_126, zw_lit, xB_c, xB_s, xB_n, i1_c, j2_c, k1_c, jJ_e, xlg, xls, xla, xpd, ppush, zw_m1, zw_m2, zw_m3, gf_1_3, gf_1_4, gf_10_2, pf_1_4, pf_5_0, pf_5_1, pf_5_2, pf_5_4, pf_5_67, pf_10_2, tg_10_2, tg_1_3, tg_1_4, tg_5_0, tg_5_1, tg_5_2, tg_5_3, tg_5_4, gv_1_3, gv_1_4, gv_213_2, xD1, xD2, xD3, xD4, xD5, xD6, xb1_0, q1] at h
              have t5 := t5 (by omega)
              obtain ⟨r, H6, ⟨p6, g6⟩, h⟩ := xc_use h (sp_X10_skip 35 sz _ w _ t5 (by decide))
              have p6 := PF_trans p5 p6
              have cs : ∀ i, 0 ≤ i → i < (t : Int) → ¬ cdW 1 (nxF sz w (a + 5 + i)) = 0 := fun i i0 i1 => rn_cd (n := 9) i0 (by omega)
              rcases g6 with ⟨k6, rfl, t6⟩ | ⟨k6, rfl⟩
              · obtain ⟨et, e2F⟩ := l1_8 ht (by omega)
                rw [e2F] at k6 t6
                simp (maxDischargeDepth := 12) -implicitDefEqProofs [vb_X1_takeLine_0, vb_X1_takeLine_18, vb_X1_takeLine_56, vb_X1_takeLine_57, vb_X1_takeLine_80, vb_X1_takeLine_81, vb_X1_takeLine_107, vb_X1_takeLine_108, vb_X1_takeLine_124, vb_X1_takeLine_126, xI_0, xI_1, xI_2, xI_3, xI_4, xI_5, xI_7, xI_8, xI_12, xI_14, xI_32, xI_33, xI_36, xI_37, xI_38, xI_43, xI_45, xI_49, xI_50, xI_53, xI_61, xI_62, xw_X1_takeLine_0, xw_X1_takeLine_18, xw_X1_takeLine_56, xw_X1_takeLine_57, xw_X1_takeLine_80, xw_X1_takeLine_81, xw_X1_takeLine_107, xw_X1_takeLine_108, xw_X1_takeLine_124, xw_X1_takeLine_126, zw_lit, xB_c, xB_s, xB_n, i1_c, j2_c, k1_c, jJ_e, xlg, xls, xla, xpd, ppush, zw_m1, zw_m2, zw_m3, gf_1_3, gf_1_4, gf_10_2, pf_1_4, pf_5_0, pf_5_1, pf_5_2, pf_5_4, pf_5_67, pf_10_2, tg_10_2, tg_1_3, tg_1_4, tg_5_0, tg_5_1, tg_5_2, tg_5_3, tg_5_4, gv_1_3, gv_1_4, gv_213_2, xD1, xD2, xD3, xD4, xD5, xD6, xb1_0] at h
                obtain ⟨r, H7, ⟨p7, g7⟩, h⟩ := xc_use h (sp_X10_amount 3 3 sz _ w _ rfl (by decide) t6 hw)
                have p7 := PF_trans p6 p7
                rcases g7 with ⟨k7, rfl, t7⟩ | ⟨k7, rfl⟩
                · have ne7 : ¬ (l3F sz w a).1 = 0 := dgF_ne (by decide) k7
                  have n7 : (dgF sz w 3 (l2F sz w a + 1) 0) = l3F sz w a := rfl
                  rw [n7] at t7
                  simp (maxDischargeDepth := 12) -implicitDefEqProofs [vb_X1_takeLine_0, vb_X1_takeLine_18, vb_X1_takeLine_56, vb_X1_takeLine_57, vb_X1_takeLine_80, vb_X1_takeLine_81, vb_X1_takeLine_107, vb_X1_takeLine_108, vb_X1_takeLine_124, vb_X1_takeLine_126, xI_0, xI_1, xI_2, xI_3, xI_4, xI_5, xI_7, xI_8, xI_12, xI_14, xI_32, xI_33, xI_36, xI_37, xI_38, xI_43, xI_45, xI_49, xI_50, xI_53, xI_61, xI_62, xw_X1_takeLine_0, xw_X1_takeLine_18, xw_X1_takeLine_56, xw_X1_takeLine_57, xw_X1_takeLine_80, xw_X1_takeLine_81, xw_X1_takeLine_107, xw_X1_takeLine_108, xw_X1_takeLine_124, xw_X1_takeLine_126, zw_lit, xB_c, xB_s, xB_n, i1_c, j2_c, k1_c, jJ_e, xlg, xls, xla, xpd, ppush, zw_m1, zw_m2, zw_m3, gf_1_3, gf_1_4, gf_10_2, pf_1_4, pf_5_0, pf_5_1, pf_5_2, pf_5_4, pf_5_67, pf_10_2, tg_10_2, tg_1_3, tg_1_4, tg_5_0, tg_5_1, tg_5_2, tg_5_3, tg_5_4, gv_1_3, gv_1_4, gv_213_2, xD1, xD2, xD3, xD4, xD5, xD6, xb1_0, n7] at h
                  obtain ⟨m7, hm7, h⟩ := h
                  have h := xw_top (hd := [57, 81, 108]) 12 xD6_ok xc_X1_takeLine xa_X1_takeLine (t := 108) rfl h
                  simp (maxDischargeDepth := 12) -implicitDefEqProofs [vb_X1_takeLine_0, vb_X1_takeLine_18, vb_X1_takeLine_56, vb_X1_takeLine_57, vb_X1_takeLine_80, vb_X1_takeLine_81, vb_X1_takeLine_107, vb_X1_takeLine_108, vb_X1_takeLine_124, vb_X1_takeLine_126, xI_0, xI_1, xI_2, xI_3, xI_4, xI_5, xI_7, xI_8, xI_12, xI_14, xI_32, xI_33, xI_36, xI_37, xI_38, xI_43, xI_45, xI_49, xI_50, xI_53, xI_61, xI_62, xw_X1_takeLine_0, xw_X1_takeLine_18, xw_X1_takeLine_56, xw_X1_takeLine_57, xw_X1_takeLine_80, xw_X1_takeLine_81, xw_X1_takeLine_107, xw_X1_takeLine_108, xw_X1_takeLine_124, xw_X1_takeLine_126, zw_lit, xB_c, xB_s, xB_n, i1_c, j2_c, k1_c, jJ_e, xlg, xls, xla, xpd, ppush, zw_m1, zw_m2, zw_m3, gf_1_3, gf_1_4, gf_10_2, pf_1_4, pf_5_0, pf_5_1, pf_5_2, pf_5_4, pf_5_67, pf_10_2, tg_10_2, tg_1_3, tg_1_4, tg_5_0, tg_5_1, tg_5_2, tg_5_3, tg_5_4, gv_1_3, gv_1_4, gv_213_2, xD1, xD2, xD3, xD4, xD5, xD6, xb1_0, ne7] at h
                  obtain ⟨r, H8, ⟨p8, g8⟩, h⟩ := xc_use h (sp_X10_skip 59 sz _ w _ t7 (by decide))
                  have p8 := PF_trans p7 p8
                  rcases g8 with ⟨k8, rfl, t8⟩ | ⟨k8, rfl⟩
                  · have e84 : H8 1 4 = B 2 := by rw [p8.1 1 (by decide)]; exact c2.symm
                    have zb : zw (B 2 + 1) = B 2 + 1 := zw_lit (by omega) (by omega)
                    have e847 : H8 47 = H 47 := p8.1 47 (by decide)
                    obtain ⟨q9, hq9⟩ : ∃ q9, q9 = H 47 (B 2) := ⟨_, rfl⟩
                    have kq : KL q9 := by rw [hq9]; exact hD.1 _ hB2.1 (by omega)
                    have lq := KL_in kq
                    have q1 : ¬ (1 : Int) = q9 := by omega
                    have q2 : ¬ q9 = 1 := by omega
                    simp (maxDischargeDepth := 12) -implicitDefEqProofs [vb_X1_takeLine_0, vb_X1_takeLine_18, vb_X1_takeLine_56, vb_X1_takeLine_57, vb_X1_takeLine_80, vb_X1_takeLine_81, vb_X1_takeLine_107, vb_X1_takeLine_108, vb_X1_takeLine_124, vb_X1_takeLine_126, xI_0, xI_1, xI_2, xI_3, xI_4, xI_5, xI_7, xI_8, xI_12, xI_14, xI_32, xI_33, xI_36, xI_37, xI_38, xI_43, xI_45, xI_49, xI_50, xI_53, xI_61, xI_62, xw_X1_takeLine_0, xw_X1_takeLine_18, xw_X1_takeLine_56, xw_X1_takeLine_57, xw_X1_takeLine_80, xw_X1_takeLine_81, xw_X1_takeLine_107, xw_X1_takeLine_108, xw_X1_takeLine_124, xw_X1_takeLine_126, zw_lit, xB_c, xB_s, xB_n, i1_c, j2_c, k1_c, jJ_e, xlg, xls, xla, xpd, ppush, zw_m1, zw_m2, zw_m3, gf_1_3, gf_1_4, gf_10_2, pf_1_4, pf_5_0, pf_5_1, pf_5_2, pf_5_4, pf_5_67, pf_10_2, tg_10_2, tg_1_3, tg_1_4, tg_5_0, tg_5_1, tg_5_2, tg_5_3, tg_5_4, gv_1_3, gv_1_4, gv_213_2, xD1, xD2, xD3, xD4, xD5, xD6, xb1_0, gv47, e847, ← hq9, e84, zb, xp_ne, q1, q2] at h
                    have kk : lnK sz w a B := ⟨n60, k1, k2, k3, k4, by omega, k6, k7, k8⟩
                    obtain ⟨G, hG⟩ : ∃ G : PH, G = pup (pup (pup (pup (pup H8 q9 0 (nxF sz w (a + 1) - 48)) q9 1 (nxF sz w (a + 3) - 48)) q9 2 (l3F sz w a).1) q9 3 (mrk sz w 1 (a + 5) t)) q9 4 0 := ⟨_, rfl⟩
                    rw [← hG] at h
                    have gO : ∀ c, ¬ c = q9 → G c = H8 c := fun c hc => by
                      rw [hG, xp_ne hc, xp_ne hc, xp_ne hc, xp_ne hc, xp_ne hc]
                    have hF : ∀ c, ¬ c = 1 → ¬ c = q9 → ¬ c = 213 → pup G 1 4 (B 2 + 1) c = H c := fun c d1 d2 d3 => by
                      rw [xp_ne d1, gO c d2]
                      exact p8.1 c d3
                    have h1 : ∀ i, pup G 1 4 (B 2 + 1) 1 i = if i = 4 then B 2 + 1 else H 1 i := fun i => by
                      rw [xp_at, gO 1 (by omega), p8.1 1 (by decide)]
                    have h213 : pup G 1 4 (B 2 + 1) 213 = H8 213 := by
                      rw [xp_ne (by decide), gO 213 (by omega)]
                    refine ⟨_, _, h, ⟨fun d d1 d2 => hF d (by omega) (by rw [hq9]; exact d2 _ hE.2.2.1 (by omega)) (by omega), fun i i2 i4 => by rw [h1, if_neg i4], fun i i3 => by rw [hF 2 (by decide) (by omega) (by decide)], fun i i2 i3 => by rw [h213]; exact p8.2 i i2 i3, hF 47 (by decide) (by omega) (by decide)⟩, Or.inl ⟨kk, rfl, ?_, ?_⟩⟩
                    · obtain ⟨u1, u2, u3, u4, u5, u6⟩ := t8
                      exact ⟨by rw [h213]; exact u1, by rw [hF 214 (by decide) (by omega) (by decide), ← p8.1 214 (by decide)]; exact u2, by rw [h213]; exact u3, u4, u5, u6⟩
                    · refine TXr_ln hw bd.2.1 hX kk hq9 hF h1 ?_
                      rw [xp_ne q2, hG]
                      simp only [xp_at]
                      have vm := mrk_VM (sz := sz) (w := w) (v := 1) (a := a + 5) (n := t) (by omega) cs
                      rw [et] at vm
                      exact ⟨rfl, rfl, rfl, vm, rfl⟩
                  · simp (maxDischargeDepth := 12) -implicitDefEqProofs [vb_X1_takeLine_0, vb_X1_takeLine_18, vb_X1_takeLine_56, vb_X1_takeLine_57, vb_X1_takeLine_80, vb_X1_takeLine_81, vb_X1_takeLine_107, vb_X1_takeLine_108, vb_X1_takeLine_124, vb_X1_takeLine_126, xI_0, xI_1, xI_2, xI_3, xI_4, xI_5, xI_7, xI_8, xI_12, xI_14, xI_32, xI_33, xI_36, xI_37, xI_38, xI_43, xI_45, xI_49, xI_50, xI_53, xI_61, xI_62, xw_X1_takeLine_0, xw_X1_takeLine_18, xw_X1_takeLine_56, xw_X1_takeLine_57, xw_X1_takeLine_80, xw_X1_takeLine_81, xw_X1_takeLine_107, xw_X1_takeLine_108, xw_X1_takeLine_124, xw_X1_takeLine_126, zw_lit, xB_c, xB_s, xB_n, i1_c, j2_c, k1_c, jJ_e, xlg, xls, xla, xpd, ppush, zw_m1, zw_m2, zw_m3, gf_1_3, gf_1_4, gf_10_2, pf_1_4, pf_5_0, pf_5_1, pf_5_2, pf_5_4, pf_5_67, pf_10_2, tg_10_2, tg_1_3, tg_1_4, tg_5_0, tg_5_1, tg_5_2, tg_5_3, tg_5_4, gv_1_3, gv_1_4, gv_213_2, xD1, xD2, xD3, xD4, xD5, xD6, xb1_0] at h
                    exact bad _ p8 (fun k => k8 k.2.2.2.2.2.2.2.2) h
                · simp (maxDischargeDepth := 12) -implicitDefEqProofs [vb_X1_takeLine_0, vb_X1_takeLine_18, vb_X1_takeLine_56, vb_X1_takeLine_57, vb_X1_takeLine_80, vb_X1_takeLine_81, vb_X1_takeLine_107, vb_X1_takeLine_108, vb_X1_takeLine_124, vb_X1_takeLine_126, xI_0, xI_1, xI_2, xI_3, xI_4, xI_5, xI_7, xI_8, xI_12, xI_14, xI_32, xI_33, xI_36, xI_37, xI_38, xI_43, xI_45, xI_49, xI_50, xI_53, xI_61, xI_62, xw_X1_takeLine_0, xw_X1_takeLine_18, xw_X1_takeLine_56, xw_X1_takeLine_57, xw_X1_takeLine_80, xw_X1_takeLine_81, xw_X1_takeLine_107, xw_X1_takeLine_108, xw_X1_takeLine_124, xw_X1_takeLine_126, zw_lit, xB_c, xB_s, xB_n, i1_c, j2_c, k1_c, jJ_e, xlg, xls, xla, xpd, ppush, zw_m1, zw_m2, zw_m3, gf_1_3, gf_1_4, gf_10_2, pf_1_4, pf_5_0, pf_5_1, pf_5_2, pf_5_4, pf_5_67, pf_10_2, tg_10_2, tg_1_3, tg_1_4, tg_5_0, tg_5_1, tg_5_2, tg_5_3, tg_5_4, gv_1_3, gv_1_4, gv_213_2, xD1, xD2, xD3, xD4, xD5, xD6, xb1_0] at h
                  have h := lnf108 h
                  exact bad _ p7 (fun k => k7 k.2.2.2.2.2.2.2.1) h
              · simp (maxDischargeDepth := 12) -implicitDefEqProofs [vb_X1_takeLine_0, vb_X1_takeLine_18, vb_X1_takeLine_56, vb_X1_takeLine_57, vb_X1_takeLine_80, vb_X1_takeLine_81, vb_X1_takeLine_107, vb_X1_takeLine_108, vb_X1_takeLine_124, vb_X1_takeLine_126, xI_0, xI_1, xI_2, xI_3, xI_4, xI_5, xI_7, xI_8, xI_12, xI_14, xI_32, xI_33, xI_36, xI_37, xI_38, xI_43, xI_45, xI_49, xI_50, xI_53, xI_61, xI_62, xw_X1_takeLine_0, xw_X1_takeLine_18, xw_X1_takeLine_56, xw_X1_takeLine_57, xw_X1_takeLine_80, xw_X1_takeLine_81, xw_X1_takeLine_107, xw_X1_takeLine_108, xw_X1_takeLine_124, xw_X1_takeLine_126, zw_lit, xB_c, xB_s, xB_n, i1_c, j2_c, k1_c, jJ_e, xlg, xls, xla, xpd, ppush, zw_m1, zw_m2, zw_m3, gf_1_3, gf_1_4, gf_10_2, pf_1_4, pf_5_0, pf_5_1, pf_5_2, pf_5_4, pf_5_67, pf_10_2, tg_10_2, tg_1_3, tg_1_4, tg_5_0, tg_5_1, tg_5_2, tg_5_3, tg_5_4, gv_1_3, gv_1_4, gv_213_2, xD1, xD2, xD3, xD4, xD5, xD6, xb1_0] at h
                have h := lnf108 h
                refine bad _ p6 (fun k => k6 ?_) h
                have k5 := k.2.2.2.2.2.1
                have : a + 5 + (t : Int) = l2F sz w a := by
                  unfold l2F
                  omega
                rw [this]
                exact k.2.2.2.2.2.2.1
          · simp (maxDischargeDepth := 12) -implicitDefEqProofs [vb_X1_takeLine_0, vb_X1_takeLine_18, vb_X1_takeLine_56, vb_X1_takeLine_57, vb_X1_takeLine_80, vb_X1_takeLine_81, vb_X1_takeLine_107, vb_X1_takeLine_108, vb_X1_takeLine_124, vb_X1_takeLine_126, xI_0, xI_1, xI_2, xI_3, xI_4, xI_5, xI_7, xI_8, xI_12, xI_14, xI_32, xI_33, xI_36, xI_37, xI_38, xI_43, xI_45, xI_49, xI_50, xI_53, xI_61, xI_62, xw_X1_takeLine_0, xw_X1_takeLine_18, xw_X1_takeLine_56, xw_X1_takeLine_57, xw_X1_takeLine_80, xw_X1_takeLine_81, xw_X1_takeLine_107, xw_X1_takeLine_108, xw_X1_takeLine_124, xw_X1_takeLine_126, zw_lit, xB_c, xB_s, xB_n, i1_c, j2_c, k1_c, jJ_e, xlg, xls, xla, xpd, ppush, zw_m1, zw_m2, zw_m3, gf_1_3, gf_1_4, gf_10_2, pf_1_4, pf_5_0, pf_5_1, pf_5_2, pf_5_4, pf_5_67, pf_10_2, tg_10_2, tg_1_3, tg_1_4, tg_5_0, tg_5_1, tg_5_2, tg_5_3, tg_5_4, gv_1_3, gv_1_4, gv_213_2, xD1, xD2, xD3, xD4, xD5, xD6, xb1_0] at h
            have h := lnf81 h
            exact bad _ p4 (fun k => k4 k.2.2.2.2.1) h
        · simp (maxDischargeDepth := 12) -implicitDefEqProofs [vb_X1_takeLine_0, vb_X1_takeLine_18, vb_X1_takeLine_56, vb_X1_takeLine_57, vb_X1_takeLine_80, vb_X1_takeLine_81, vb_X1_takeLine_107, vb_X1_takeLine_108, vb_X1_takeLine_124, vb_X1_takeLine_126, xI_0, xI_1, xI_2, xI_3, xI_4, xI_5, xI_7, xI_8, xI_12, xI_14, xI_32, xI_33, xI_36, xI_37, xI_38, xI_43, xI_45, xI_49, xI_50, xI_53, xI_61, xI_62, xw_X1_takeLine_0, xw_X1_takeLine_18, xw_X1_takeLine_56, xw_X1_takeLine_57, xw_X1_takeLine_80, xw_X1_takeLine_81, xw_X1_takeLine_107, xw_X1_takeLine_108, xw_X1_takeLine_124, xw_X1_takeLine_126, zw_lit, xB_c, xB_s, xB_n, i1_c, j2_c, k1_c, jJ_e, xlg, xls, xla, xpd, ppush, zw_m1, zw_m2, zw_m3, gf_1_3, gf_1_4, gf_10_2, pf_1_4, pf_5_0, pf_5_1, pf_5_2, pf_5_4, pf_5_67, pf_10_2, tg_10_2, tg_1_3, tg_1_4, tg_5_0, tg_5_1, tg_5_2, tg_5_3, tg_5_4, gv_1_3, gv_1_4, gv_213_2, xD1, xD2, xD3, xD4, xD5, xD6, xb1_0] at h
          have h := lnf57 h
          exact bad _ p3 (fun k => k3 k.2.2.2.1) h
      · simp (maxDischargeDepth := 12) -implicitDefEqProofs [vb_X1_takeLine_0, vb_X1_takeLine_18, vb_X1_takeLine_56, vb_X1_takeLine_57, vb_X1_takeLine_80, vb_X1_takeLine_81, vb_X1_takeLine_107, vb_X1_takeLine_108, vb_X1_takeLine_124, vb_X1_takeLine_126, xI_0, xI_1, xI_2, xI_3, xI_4, xI_5, xI_7, xI_8, xI_12, xI_14, xI_32, xI_33, xI_36, xI_37, xI_38, xI_43, xI_45, xI_49, xI_50, xI_53, xI_61, xI_62, xw_X1_takeLine_0, xw_X1_takeLine_18, xw_X1_takeLine_56, xw_X1_takeLine_57, xw_X1_takeLine_80, xw_X1_takeLine_81, xw_X1_takeLine_107, xw_X1_takeLine_108, xw_X1_takeLine_124, xw_X1_takeLine_126, zw_lit, xB_c, xB_s, xB_n, i1_c, j2_c, k1_c, jJ_e, xlg, xls, xla, xpd, ppush, zw_m1, zw_m2, zw_m3, gf_1_3, gf_1_4, gf_10_2, pf_1_4, pf_5_0, pf_5_1, pf_5_2, pf_5_4, pf_5_67, pf_10_2, tg_10_2, tg_1_3, tg_1_4, tg_5_0, tg_5_1, tg_5_2, tg_5_3, tg_5_4, gv_1_3, gv_1_4, gv_213_2, xD1, xD2, xD3, xD4, xD5, xD6, xb1_0] at h
        have h := lnf57 h
        exact bad _ p2 (fun k => k2 k.2.2.1) h
    · simp (maxDischargeDepth := 12) -implicitDefEqProofs [vb_X1_takeLine_0, vb_X1_takeLine_18, vb_X1_takeLine_56, vb_X1_takeLine_57, vb_X1_takeLine_80, vb_X1_takeLine_81, vb_X1_takeLine_107, vb_X1_takeLine_108, vb_X1_takeLine_124, vb_X1_takeLine_126, xI_0, xI_1, xI_2, xI_3, xI_4, xI_5, xI_7, xI_8, xI_12, xI_14, xI_32, xI_33, xI_36, xI_37, xI_38, xI_43, xI_45, xI_49, xI_50, xI_53, xI_61, xI_62, xw_X1_takeLine_0, xw_X1_takeLine_18, xw_X1_takeLine_56, xw_X1_takeLine_57, xw_X1_takeLine_80, xw_X1_takeLine_81, xw_X1_takeLine_107, xw_X1_takeLine_108, xw_X1_takeLine_124, xw_X1_takeLine_126, zw_lit, xB_c, xB_s, xB_n, i1_c, j2_c, k1_c, jJ_e, xlg, xls, xla, xpd, ppush, zw_m1, zw_m2, zw_m3, gf_1_3, gf_1_4, gf_10_2, pf_1_4, pf_5_0, pf_5_1, pf_5_2, pf_5_4, pf_5_67, pf_10_2, tg_10_2, tg_1_3, tg_1_4, tg_5_0, tg_5_1, tg_5_2, tg_5_3, tg_5_4, gv_1_3, gv_1_4, gv_213_2, xD1, xD2, xD3, xD4, xD5, xD6, xb1_0] at h
      have h := lnf57 h
      exact bad _ p1 (fun k => k1 k.2.1) h
