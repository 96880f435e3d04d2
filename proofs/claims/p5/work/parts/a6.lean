/-! a deed is taken back -/
theorem gvD_all6 : ∀ l : Nat, l < 20 → zrt (469 + 6 * l) 0 = none ∧ zrt (469 + 6 * l) 1 = none ∧ zrt (469 + 6 * l) 2 = none ∧ zrt (469 + 6 * l) 3 = none := by decide +kernel
theorem gvD6 {l : Int} (l0 : 0 ≤ l) (l1 : l < 20) (X : PH) : gv X (469 + 6 * l) 0 = X (469 + 6 * l) 0 ∧ gv X (469 + 6 * l) 1 = X (469 + 6 * l) 1 ∧ gv X (469 + 6 * l) 2 = X (469 + 6 * l) 2 ∧ gv X (469 + 6 * l) 3 = X (469 + 6 * l) 3 := by
  obtain ⟨n, rfl⟩ := Int.eq_ofNat_of_zero_le l0
  have g := gvD_all6 n (by omega)
  unfold gv
  rw [show (469 + 6 * (n : Int)).toNat = 469 + 6 * n by omega, show (0 : Int).toNat = 0 from rfl, show (1 : Int).toNat = 1 from rfl, show (2 : Int).toNat = 2 from rfl, show (3 : Int).toNat = 3 from rfl, g.1, g.2.1, g.2.2.1, g.2.2.2]
  exact ⟨rfl, rfl, rfl, rfl⟩
theorem gvD' {l : Int} (l0 : 0 ≤ l) (l1 : l < 20) : ∀ X : PH, gv X (469 + 6 * l) 5 = X (469 + 6 * l) 5 := fun X => gvD l0 l1 (Or.inr rfl) X
theorem gvD4 {l : Int} (l0 : 0 ≤ l) (l1 : l < 20) : ∀ X : PH, gv X (469 + 6 * l) 4 = X (469 + 6 * l) 4 := fun X => gvD l0 l1 (Or.inl rfl) X
set_option maxRecDepth 100000 in
theorem sp_X2_swapLaw (l : Int) (H : PH) (hl : 0 ≤ l ∧ l < 20) : SPEC 32 [(2, 469 + 6 * l), (2, 1)] H (fun r H' => r = none ∧ H' = pup (pup H 1 5 (H (469 + 6 * l) 4)) (469 + 6 * l) 4 (H 1 5)) := by
  intro E n res h
  have g4 := gvD4 hl.1 hl.2
  have h := call_runP 3 vm_X2_swapLaw h
  have h := xw_top (hd := []) 3 xD6_ok xc_X2_swapLaw xa_X2_swapLaw (t := 0) rfl h
  simp (maxDischargeDepth := 12) -implicitDefEqProofs [vb_X2_swapLaw_0, xI_0, xI_4, xI_49, xI_50, xI_65, xw_X2_swapLaw_0, zw_lit, xB_c, xB_s, xB_n, i1_c, j2_c, k1_c, jJ_e, xlg, xls, xla, xpd, ppush, zw_m1, zw_m2, zw_m3, gf_1_5, gf_2_4, pf_1_197, pf_2_196, tg_1_5, tg_2_4, gv_1_5, xD1, xD2, xD3, xD4, xD5, xD6, xb1_0, g4] at h
  exact ⟨_, _, h, rfl, rfl⟩
set_option maxRecDepth 100000 in
theorem sp_X2_undo (l : Int) (A C : Int → Int) (H : PH) (hl : 0 ≤ l ∧ l < 20) (ok0 : OKR A) (okC : OKR C) (ld : LDA H) (x2 : CPr H A) (x1 : CI H A) (dd : DD H l A C) : SPEC 31 [(2, 469 + 6 * l), (2, 1)] H (fun r H' => r = none ∧ UP H H' l C) := by
  intro E n res h
  obtain ⟨s0, s1, s2, s3, s4, s5, s6, s7, s8, s9⟩ := id x1.1.1
  have a0 := ok0.1.1
  have a2 := ok0.1.2.2.1
  have h11 := (OKR_11 ok0).2
  have n1 : ¬ (1 : Int) = 469 + 6 * l := by omega
  have gd5 := gvD' hl.1 hl.2
  have gD0 : ∀ X : PH, gv X (469 + 6 * l) 0 = X (469 + 6 * l) 0 := fun X => (gvD6 hl.1 hl.2 X).1
  have gD1 : ∀ X : PH, gv X (469 + 6 * l) 1 = X (469 + 6 * l) 1 := fun X => (gvD6 hl.1 hl.2 X).2.1
  have gD2 : ∀ X : PH, gv X (469 + 6 * l) 2 = X (469 + 6 * l) 2 := fun X => (gvD6 hl.1 hl.2 X).2.2.1
  have gD3 : ∀ X : PH, gv X (469 + 6 * l) 3 = X (469 + 6 * l) 3 := fun X => (gvD6 hl.1 hl.2 X).2.2.2
  rcases dd with ⟨e0, rq, b1, b2, b3⟩ | ⟨e0, rq, lw⟩ | ⟨e0, b1, b2, rq⟩ | ⟨e0, b1, rq⟩ | ⟨e0, rq⟩ | ⟨e0, rq⟩ | ⟨e0, rq⟩ | ⟨e0, b1, b2, rq, ln, gq⟩ | ⟨e0, rq⟩ | ⟨e0, rq⟩ | ⟨e0, b1, rq⟩
  · have w := sw100_0
    have h := call_runP 2 vm_X2_undo h
    have h := xw_top (hd := []) 15 xD6_ok xc_X2_undo xa_X2_undo (t := 0) rfl h
    simp (maxDischargeDepth := 12) -implicitDefEqProofs [vb_X2_undo_0, vb_X2_undo_60, vb_X2_undo_79, vb_X2_undo_87, vb_X2_undo_108, vb_X2_undo_127, vb_X2_undo_138, vb_X2_undo_149, vb_X2_undo_160, vb_X2_undo_179, vb_X2_undo_190, vb_X2_undo_209, vb_X2_undo_243, xI_0, xI_7, xI_15, xI_33, xI_36, xI_49, xI_50, xI_53, xI_61, xI_65, xI_100, xw_X2_undo_0, xw_X2_undo_60, xw_X2_undo_79, xw_X2_undo_87, xw_X2_undo_108, xw_X2_undo_127, xw_X2_undo_138, xw_X2_undo_149, xw_X2_undo_160, xw_X2_undo_179, xw_X2_undo_190, xw_X2_undo_209, xw_X2_undo_243, zw_lit, xB_c, xB_s, xB_n, i1_c, j2_c, k1_c, jJ_e, xlg, xls, xla, xpd, ppush, zw_m1, zw_m2, zw_m3, gf_0_4, gf_0_5, gf_1_1, gf_1_13, gf_2_0, gf_2_1, gf_2_2, gf_2_3, gf_2_5, pf_0_3, pf_0_4, pf_0_5, pf_1_7, pf_1_8, pf_1_9, pf_1_10, pf_1_11, pf_1_12, pf_1_13, pf_2_197, tg_0_3, tg_0_4, tg_0_5, tg_1_1, tg_1_10, tg_1_11, tg_1_12, tg_1_13, tg_1_7, tg_1_8, tg_1_9, tg_2_0, tg_2_1, tg_2_2, tg_2_3, tg_2_5, gv_1_1, gv_1_13, xD1, xD2, xD3, xD4, xD5, xD6, xb1_0, gD0, gD1, gD2, gD3, e0, w] at h
    obtain ⟨r, H1, ⟨rfl, c1, c2, c3, c4, c5, c6, c7⟩, g⟩ := xc_use h (sp_X1_cutTo A _ _ _ H ok0.1 x1.1 (fun k k0 k1 => (x1.2.1 k k0 k1).1) (fun _ => x1.2.1) x1.2.2 x2 b1 b2 b3)
    have fx : FXs H H1 := ⟨fun d d1 d2 => c7 d (by omega) (by omega) (by omega) (fun j j0 j1 => d2 j j0 (by omega)), c4, c5, c3 47 (by decide) (by decide) (by decide) (fun w => by have := KL_in w; omega)⟩
    have gl := GFL_XS ld fx
    refine ⟨none, H1, g, rfl, CI_EQ c1 rq, CPr_EQ c2 rq, LDA_fr gl.2.1 gl.2.2.1 ld (fun m m0 m1 => by rw [(gl.2.2.2 m m0 m1).1]; exact ⟨rfl, rfl⟩), XS_c ld.1 fx (by decide), c3 213 (by decide) (by decide) (by decide) (fun w => by have := KL_in w; omega), OF_XS ld.1 fx, fun m m0 m1 _ => gl.2.2.2 m m0 m1⟩
  · have w := sw100_1
    have h := call_runP 2 vm_X2_undo h
    have h := xw_top (hd := []) 15 xD6_ok xc_X2_undo xa_X2_undo (t := 0) rfl h
    simp (maxDischargeDepth := 12) -implicitDefEqProofs [vb_X2_undo_0, vb_X2_undo_60, vb_X2_undo_79, vb_X2_undo_87, vb_X2_undo_108, vb_X2_undo_127, vb_X2_undo_138, vb_X2_undo_149, vb_X2_undo_160, vb_X2_undo_179, vb_X2_undo_190, vb_X2_undo_209, vb_X2_undo_243, xI_0, xI_7, xI_15, xI_33, xI_36, xI_49, xI_50, xI_53, xI_61, xI_65, xI_100, xw_X2_undo_0, xw_X2_undo_60, xw_X2_undo_79, xw_X2_undo_87, xw_X2_undo_108, xw_X2_undo_127, xw_X2_undo_138, xw_X2_undo_149, xw_X2_undo_160, xw_X2_undo_179, xw_X2_undo_190, xw_X2_undo_209, xw_X2_undo_243, zw_lit, xB_c, xB_s, xB_n, i1_c, j2_c, k1_c, jJ_e, xlg, xls, xla, xpd, ppush, zw_m1, zw_m2, zw_m3, gf_0_4, gf_0_5, gf_1_1, gf_1_13, gf_2_0, gf_2_1, gf_2_2, gf_2_3, gf_2_5, pf_0_3, pf_0_4, pf_0_5, pf_1_7, pf_1_8, pf_1_9, pf_1_10, pf_1_11, pf_1_12, pf_1_13, pf_2_197, tg_0_3, tg_0_4, tg_0_5, tg_1_1, tg_1_10, tg_1_11, tg_1_12, tg_1_13, tg_1_7, tg_1_8, tg_1_9, tg_2_0, tg_2_1, tg_2_2, tg_2_3, tg_2_5, gv_1_1, gv_1_13, xD1, xD2, xD3, xD4, xD5, xD6, xb1_0, gD0, gD1, gD2, gD3, e0, w] at h
    obtain ⟨r, H1, ⟨rfl, rfl⟩, g⟩ := xc_use h (sp_X2_swapLaw l H hl)
    refine ⟨none, _, g, rfl, UP_law hl ok0.1 ld x2 x1 (OKR_11 okC).2 lw rq (fun c i c1 c2 => ?_) ?_ ?_⟩
    · by_cases p : c = 469 + 6 * l
      · rw [p, xp_at, if_neg (fun w => c2 ⟨p, w⟩), xp_ne (by omega)]
      · rw [xp_ne p]
        by_cases q : c = 1
        · rw [q, xp_at, if_neg (fun w => c1 ⟨q, w⟩)]
        · rw [xp_ne q]
    · rw [xp_ne n1, xp_at, if_pos rfl]
    · rw [xp_at, if_pos rfl]
  · have w := sw100_2
    have g46 : ∀ X : PH, gv X 46 (H (469 + 6 * l) 1) = 57 + 3 * H (469 + 6 * l) 1 := fun X => gv46 b1.1 (by omega)
    have kb : ∀ X : PH, gv X (57 + 3 * H (469 + 6 * l) 1) 5 = X (57 + 3 * H (469 + 6 * l) 1) 5 := (KB_f (KB_of b1.1 (by omega))).2.2.2.2.2.2.2.1
    have gb := x1.1.2.1 _ b1.1 b1.2
    have e6 := gb.2.2.2.2.2.1
    have r6 := ok0.1.2.2.2.2.1 _ b1.1 (by omega)
    have r8 := ok0.1.2.2.2.1 _ b1.1 (by omega)
    have z1 : zw (H (57 + 3 * H (469 + 6 * l) 1) 5 - 1) = H (57 + 3 * H (469 + 6 * l) 1) 5 - 1 := zw_lit (by omega) (by omega)
    have h := call_runP 2 vm_X2_undo h
    have h := xw_top (hd := []) 15 xD6_ok xc_X2_undo xa_X2_undo (t := 0) rfl h
    simp (maxDischargeDepth := 12) -implicitDefEqProofs [vb_X2_undo_0, vb_X2_undo_60, vb_X2_undo_79, vb_X2_undo_87, vb_X2_undo_108, vb_X2_undo_127, vb_X2_undo_138, vb_X2_undo_149, vb_X2_undo_160, vb_X2_undo_179, vb_X2_undo_190, vb_X2_undo_209, vb_X2_undo_243, xI_0, xI_7, xI_15, xI_33, xI_36, xI_49, xI_50, xI_53, xI_61, xI_65, xI_100, xw_X2_undo_0, xw_X2_undo_60, xw_X2_undo_79, xw_X2_undo_87, xw_X2_undo_108, xw_X2_undo_127, xw_X2_undo_138, xw_X2_undo_149, xw_X2_undo_160, xw_X2_undo_179, xw_X2_undo_190, xw_X2_undo_209, xw_X2_undo_243, zw_lit, xB_c, xB_s, xB_n, i1_c, j2_c, k1_c, jJ_e, xlg, xls, xla, xpd, ppush, zw_m1, zw_m2, zw_m3, gf_0_4, gf_0_5, gf_1_1, gf_1_13, gf_2_0, gf_2_1, gf_2_2, gf_2_3, gf_2_5, pf_0_3, pf_0_4, pf_0_5, pf_1_7, pf_1_8, pf_1_9, pf_1_10, pf_1_11, pf_1_12, pf_1_13, pf_2_197, tg_0_3, tg_0_4, tg_0_5, tg_1_1, tg_1_10, tg_1_11, tg_1_12, tg_1_13, tg_1_7, tg_1_8, tg_1_9, tg_2_0, tg_2_1, tg_2_2, tg_2_3, tg_2_5, gv_1_1, gv_1_13, xD1, xD2, xD3, xD4, xD5, xD6, xb1_0, gD0, gD1, gD2, gD3, e0, w, g46, kb, z1] at h
    refine ⟨none, _, h, rfl, UP_num ok0.1 ld x2 (CI_bill (B := xup A (92 + 26 * H (469 + 6 * l) 1 + 13) (A (92 + 26 * H (469 + 6 * l) 1 + 13) - 1)) ok0.1 h11 x1 b1 (fun c _ c2 _ _ => xp_ne c2) (fun i hi => by rw [xp_ne (by omega)]) (fun i hi _ => xup_n (by omega)) ?_ ?_) rq (fun i hi => xup_n (by omega)) (fun c c1 c2 => xp_ne (by omega)) (by rw [xp_ne (by omega)]; exact ⟨rfl, rfl⟩)⟩
    · rw [xup_n (by omega), xp_ne (by omega)]
      exact s9
    · have e : ∀ i, pup H (57 + 3 * H (469 + 6 * l) 1) 5 (H (57 + 3 * H (469 + 6 * l) 1) 5 - 1) (57 + 3 * H (469 + 6 * l) 1) i = if i = 5 then H (57 + 3 * H (469 + 6 * l) 1) 5 - 1 else H (57 + 3 * H (469 + 6 * l) 1) i := fun i => xp_at
      obtain ⟨t1, t2, t3, t4, t5, t6, t7⟩ := gb
      unfold BRr
      rw [e, e, e, e, e, e, if_neg (by decide), if_neg (by decide), if_neg (by decide), if_neg (by decide), if_neg (by decide), if_pos rfl, xp_ne (by omega), xp_ne (by omega), xup_n (by omega), xup_n (by omega), xup_n (by omega), xup_n (by omega), xup_n (by omega), xup_a]
      exact ⟨VM_congr t1 rfl (fun i i0 i1 => (xup_n (by omega)).symm), t2, t3, t4, t5, by omega, fun i i0 i1 => by rw [xup_n (by omega), xup_n (by omega)]; exact t7 i i0 (by omega)⟩
  · have w := sw100_3
    have g46 : ∀ X : PH, gv X 46 (H (469 + 6 * l) 1) = 57 + 3 * H (469 + 6 * l) 1 := fun X => gv46 b1.1 (by omega)
    have gb := x1.1.2.1 _ b1.1 b1.2
    have e6 := gb.2.2.2.2.2.1
    have r6 := ok0.1.2.2.2.2.1 _ b1.1 (by omega)
    have r8 := ok0.1.2.2.2.1 _ b1.1 (by omega)
    have h := call_runP 2 vm_X2_undo h
    have h := xw_top (hd := []) 15 xD6_ok xc_X2_undo xa_X2_undo (t := 0) rfl h
    simp (maxDischargeDepth := 12) -implicitDefEqProofs [vb_X2_undo_0, vb_X2_undo_60, vb_X2_undo_79, vb_X2_undo_87, vb_X2_undo_108, vb_X2_undo_127, vb_X2_undo_138, vb_X2_undo_149, vb_X2_undo_160, vb_X2_undo_179, vb_X2_undo_190, vb_X2_undo_209, vb_X2_undo_243, xI_0, xI_7, xI_15, xI_33, xI_36, xI_49, xI_50, xI_53, xI_61, xI_65, xI_100, xw_X2_undo_0, xw_X2_undo_60, xw_X2_undo_79, xw_X2_undo_87, xw_X2_undo_108, xw_X2_undo_127, xw_X2_undo_138, xw_X2_undo_149, xw_X2_undo_160, xw_X2_undo_179, xw_X2_undo_190, xw_X2_undo_209, xw_X2_undo_243, zw_lit, xB_c, xB_s, xB_n, i1_c, j2_c, k1_c, jJ_e, xlg, xls, xla, xpd, ppush, zw_m1, zw_m2, zw_m3, gf_0_4, gf_0_5, gf_1_1, gf_1_13, gf_2_0, gf_2_1, gf_2_2, gf_2_3, gf_2_5, pf_0_3, pf_0_4, pf_0_5, pf_1_7, pf_1_8, pf_1_9, pf_1_10, pf_1_11, pf_1_12, pf_1_13, pf_2_197, tg_0_3, tg_0_4, tg_0_5, tg_1_1, tg_1_10, tg_1_11, tg_1_12, tg_1_13, tg_1_7, tg_1_8, tg_1_9, tg_2_0, tg_2_1, tg_2_2, tg_2_3, tg_2_5, gv_1_1, gv_1_13, xD1, xD2, xD3, xD4, xD5, xD6, xb1_0, gD0, gD1, gD2, gD3, e0, w, g46] at h
    refine ⟨none, _, h, rfl, UP_num ok0.1 ld x2 (CI_bill (B := xup A (92 + 26 * H (469 + 6 * l) 1 + 11) (H (469 + 6 * l) 2)) ok0.1 h11 x1 b1 (fun c _ c2 _ _ => xp_ne c2) (fun i hi => by rw [xp_ne (by omega)]) (fun i hi _ => xup_n (by omega)) ?_ ?_) rq (fun i hi => xup_n (by omega)) (fun c c1 c2 => xp_ne (by omega)) (by rw [xp_ne (by omega)]; exact ⟨rfl, rfl⟩)⟩
    · rw [xup_n (by omega), xp_ne (by omega)]
      exact s9
    · have e : ∀ i, pup H (57 + 3 * H (469 + 6 * l) 1) 3 (H (469 + 6 * l) 2) (57 + 3 * H (469 + 6 * l) 1) i = if i = 3 then H (469 + 6 * l) 2 else H (57 + 3 * H (469 + 6 * l) 1) i := fun i => xp_at
      obtain ⟨t1, t2, t3, t4, t5, t6, t7⟩ := gb
      unfold BRr
      rw [e, e, e, e, e, e, if_neg (by decide), if_neg (by decide), if_neg (by decide), if_pos rfl, if_neg (by decide), if_neg (by decide), xp_ne (by omega), xp_ne (by omega), xup_n (by omega), xup_n (by omega), xup_n (by omega), xup_a, xup_n (by omega), xup_n (by omega)]
      exact ⟨VM_congr t1 rfl (fun i i0 i1 => (xup_n (by omega)).symm), t2, t3, rfl, t5, t6, fun i i0 i1 => by rw [xup_n (by omega), xup_n (by omega)]; exact t7 i i0 i1⟩
  · have w := sw100_4
    have h := call_runP 2 vm_X2_undo h
    have h := xw_top (hd := []) 15 xD6_ok xc_X2_undo xa_X2_undo (t := 0) rfl h
    simp (maxDischargeDepth := 12) -implicitDefEqProofs [vb_X2_undo_0, vb_X2_undo_60, vb_X2_undo_79, vb_X2_undo_87, vb_X2_undo_108, vb_X2_undo_127, vb_X2_undo_138, vb_X2_undo_149, vb_X2_undo_160, vb_X2_undo_179, vb_X2_undo_190, vb_X2_undo_209, vb_X2_undo_243, xI_0, xI_7, xI_15, xI_33, xI_36, xI_49, xI_50, xI_53, xI_61, xI_65, xI_100, xw_X2_undo_0, xw_X2_undo_60, xw_X2_undo_79, xw_X2_undo_87, xw_X2_undo_108, xw_X2_undo_127, xw_X2_undo_138, xw_X2_undo_149, xw_X2_undo_160, xw_X2_undo_179, xw_X2_undo_190, xw_X2_undo_209, xw_X2_undo_243, zw_lit, xB_c, xB_s, xB_n, i1_c, j2_c, k1_c, jJ_e, xlg, xls, xla, xpd, ppush, zw_m1, zw_m2, zw_m3, gf_0_4, gf_0_5, gf_1_1, gf_1_13, gf_2_0, gf_2_1, gf_2_2, gf_2_3, gf_2_5, pf_0_3, pf_0_4, pf_0_5, pf_1_7, pf_1_8, pf_1_9, pf_1_10, pf_1_11, pf_1_12, pf_1_13, pf_2_197, tg_0_3, tg_0_4, tg_0_5, tg_1_1, tg_1_10, tg_1_11, tg_1_12, tg_1_13, tg_1_7, tg_1_8, tg_1_9, tg_2_0, tg_2_1, tg_2_2, tg_2_3, tg_2_5, gv_1_1, gv_1_13, xD1, xD2, xD3, xD4, xD5, xD6, xb1_0, gD0, gD1, gD2, gD3, e0, w] at h
    refine ⟨none, _, h, rfl, UP_num ok0.1 ld x2 (CI_set ok0.1 h11 x1 (fun c c1 => xp_ne c1) (fun i hi => by rw [xp_at, if_neg (by omega)]) (fun i hi => xup_n (by omega)) ?_) rq (fun i hi => xup_n (by omega)) (fun c c1 _ => xp_ne c1) (by rw [xp_at, if_neg (by decide), xp_at, if_neg (by decide)]; exact ⟨rfl, rfl⟩)⟩
    simp only [xp_at, xup]
    simp [s3, s4, s5, s6, s7, s8, s9]
  · have w := sw100_5
    have h := call_runP 2 vm_X2_undo h
    have h := xw_top (hd := []) 15 xD6_ok xc_X2_undo xa_X2_undo (t := 0) rfl h
    simp (maxDischargeDepth := 12) -implicitDefEqProofs [vb_X2_undo_0, vb_X2_undo_60, vb_X2_undo_79, vb_X2_undo_87, vb_X2_undo_108, vb_X2_undo_127, vb_X2_undo_138, vb_X2_undo_149, vb_X2_undo_160, vb_X2_undo_179, vb_X2_undo_190, vb_X2_undo_209, vb_X2_undo_243, xI_0, xI_7, xI_15, xI_33, xI_36, xI_49, xI_50, xI_53, xI_61, xI_65, xI_100, xw_X2_undo_0, xw_X2_undo_60, xw_X2_undo_79, xw_X2_undo_87, xw_X2_undo_108, xw_X2_undo_127, xw_X2_undo_138, xw_X2_undo_149, xw_X2_undo_160, xw_X2_undo_179, xw_X2_undo_190, xw_X2_undo_209, xw_X2_undo_243, zw_lit, xB_c, xB_s, xB_n, i1_c, j2_c, k1_c, jJ_e, xlg, xls, xla, xpd, ppush, zw_m1, zw_m2, zw_m3, gf_0_4, gf_0_5, gf_1_1, gf_1_13, gf_2_0, gf_2_1, gf_2_2, gf_2_3, gf_2_5, pf_0_3, pf_0_4, pf_0_5, pf_1_7, pf_1_8, pf_1_9, pf_1_10, pf_1_11, pf_1_12, pf_1_13, pf_2_197, tg_0_3, tg_0_4, tg_0_5, tg_1_1, tg_1_10, tg_1_11, tg_1_12, tg_1_13, tg_1_7, tg_1_8, tg_1_9, tg_2_0, tg_2_1, tg_2_2, tg_2_3, tg_2_5, gv_1_1, gv_1_13, xD1, xD2, xD3, xD4, xD5, xD6, xb1_0, gD0, gD1, gD2, gD3, e0, w] at h
    refine ⟨none, _, h, rfl, UP_num ok0.1 ld x2 (CI_set ok0.1 h11 x1 (fun c c1 => xp_ne c1) (fun i hi => by rw [xp_at, if_neg (by omega)]) (fun i hi => xup_n (by omega)) ?_) rq (fun i hi => xup_n (by omega)) (fun c c1 _ => xp_ne c1) (by rw [xp_at, if_neg (by decide), xp_at, if_neg (by decide)]; exact ⟨rfl, rfl⟩)⟩
    simp only [xp_at, xup]
    simp [s3, s4, s5, s6, s7, s8, s9]
  · have w := sw100_6
    have h := call_runP 2 vm_X2_undo h
    have h := xw_top (hd := []) 15 xD6_ok xc_X2_undo xa_X2_undo (t := 0) rfl h
    simp (maxDischargeDepth := 12) -implicitDefEqProofs [vb_X2_undo_0, vb_X2_undo_60, vb_X2_undo_79, vb_X2_undo_87, vb_X2_undo_108, vb_X2_undo_127, vb_X2_undo_138, vb_X2_undo_149, vb_X2_undo_160, vb_X2_undo_179, vb_X2_undo_190, vb_X2_undo_209, vb_X2_undo_243, xI_0, xI_7, xI_15, xI_33, xI_36, xI_49, xI_50, xI_53, xI_61, xI_65, xI_100, xw_X2_undo_0, xw_X2_undo_60, xw_X2_undo_79, xw_X2_undo_87, xw_X2_undo_108, xw_X2_undo_127, xw_X2_undo_138, xw_X2_undo_149, xw_X2_undo_160, xw_X2_undo_179, xw_X2_undo_190, xw_X2_undo_209, xw_X2_undo_243, zw_lit, xB_c, xB_s, xB_n, i1_c, j2_c, k1_c, jJ_e, xlg, xls, xla, xpd, ppush, zw_m1, zw_m2, zw_m3, gf_0_4, gf_0_5, gf_1_1, gf_1_13, gf_2_0, gf_2_1, gf_2_2, gf_2_3, gf_2_5, pf_0_3, pf_0_4, pf_0_5, pf_1_7, pf_1_8, pf_1_9, pf_1_10, pf_1_11, pf_1_12, pf_1_13, pf_2_197, tg_0_3, tg_0_4, tg_0_5, tg_1_1, tg_1_10, tg_1_11, tg_1_12, tg_1_13, tg_1_7, tg_1_8, tg_1_9, tg_2_0, tg_2_1, tg_2_2, tg_2_3, tg_2_5, gv_1_1, gv_1_13, xD1, xD2, xD3, xD4, xD5, xD6, xb1_0, gD0, gD1, gD2, gD3, e0, w] at h
    refine ⟨none, _, h, rfl, UP_num ok0.1 ld x2 (CI_set ok0.1 h11 x1 (fun c c1 => xp_ne c1) (fun i hi => by rw [xp_at, if_neg (by omega)]) (fun i hi => xup_n (by omega)) ?_) rq (fun i hi => xup_n (by omega)) (fun c c1 _ => xp_ne c1) (by rw [xp_at, if_neg (by decide), xp_at, if_neg (by decide)]; exact ⟨rfl, rfl⟩)⟩
    simp only [xp_at, xup]
    simp [s3, s4, s5, s6, s7, s8, s9]
  · have w := sw100_7
    have h := call_runP 2 vm_X2_undo h
    have h := xw_top (hd := []) 15 xD6_ok xc_X2_undo xa_X2_undo (t := 0) rfl h
    simp (maxDischargeDepth := 12) -implicitDefEqProofs [vb_X2_undo_0, vb_X2_undo_60, vb_X2_undo_79, vb_X2_undo_87, vb_X2_undo_108, vb_X2_undo_127, vb_X2_undo_138, vb_X2_undo_149, vb_X2_undo_160, vb_X2_undo_179, vb_X2_undo_190, vb_X2_undo_209, vb_X2_undo_243, xI_0, xI_7, xI_15, xI_33, xI_36, xI_49, xI_50, xI_53, xI_61, xI_65, xI_100, xw_X2_undo_0, xw_X2_undo_60, xw_X2_undo_79, xw_X2_undo_87, xw_X2_undo_108, xw_X2_undo_127, xw_X2_undo_138, xw_X2_undo_149, xw_X2_undo_160, xw_X2_undo_179, xw_X2_undo_190, xw_X2_undo_209, xw_X2_undo_243, zw_lit, xB_c, xB_s, xB_n, i1_c, j2_c, k1_c, jJ_e, xlg, xls, xla, xpd, ppush, zw_m1, zw_m2, zw_m3, gf_0_4, gf_0_5, gf_1_1, gf_1_13, gf_2_0, gf_2_1, gf_2_2, gf_2_3, gf_2_5, pf_0_3, pf_0_4, pf_0_5, pf_1_7, pf_1_8, pf_1_9, pf_1_10, pf_1_11, pf_1_12, pf_1_13, pf_2_197, tg_0_3, tg_0_4, tg_0_5, tg_1_1, tg_1_10, tg_1_11, tg_1_12, tg_1_13, tg_1_7, tg_1_8, tg_1_9, tg_2_0, tg_2_1, tg_2_2, tg_2_3, tg_2_5, gv_1_1, gv_1_13, xD1, xD2, xD3, xD4, xD5, xD6, xb1_0, gD0, gD1, gD2, gD3, e0, w, gd5] at h
    obtain ⟨r, H1, ⟨rfl, g4, gc, g1, g47⟩, g⟩ := xc_use h (sp_X1_putBack (H (469 + 6 * l) 1) (H (469 + 6 * l) 5) (A 2) H b1 b2 s2.symm)
    simp (maxDischargeDepth := 12) -implicitDefEqProofs [vb_X2_undo_0, vb_X2_undo_60, vb_X2_undo_79, vb_X2_undo_87, vb_X2_undo_108, vb_X2_undo_127, vb_X2_undo_138, vb_X2_undo_149, vb_X2_undo_160, vb_X2_undo_179, vb_X2_undo_190, vb_X2_undo_209, vb_X2_undo_243, xI_0, xI_7, xI_15, xI_33, xI_36, xI_49, xI_50, xI_53, xI_61, xI_65, xI_100, xw_X2_undo_0, xw_X2_undo_60, xw_X2_undo_79, xw_X2_undo_87, xw_X2_undo_108, xw_X2_undo_127, xw_X2_undo_138, xw_X2_undo_149, xw_X2_undo_160, xw_X2_undo_179, xw_X2_undo_190, xw_X2_undo_209, xw_X2_undo_243, zw_lit, xB_c, xB_s, xB_n, i1_c, j2_c, k1_c, jJ_e, xlg, xls, xla, xpd, ppush, zw_m1, zw_m2, zw_m3, gf_0_4, gf_0_5, gf_1_1, gf_1_13, gf_2_0, gf_2_1, gf_2_2, gf_2_3, gf_2_5, pf_0_3, pf_0_4, pf_0_5, pf_1_7, pf_1_8, pf_1_9, pf_1_10, pf_1_11, pf_1_12, pf_1_13, pf_2_197, tg_0_3, tg_0_4, tg_0_5, tg_1_1, tg_1_10, tg_1_11, tg_1_12, tg_1_13, tg_1_7, tg_1_8, tg_1_9, tg_2_0, tg_2_1, tg_2_2, tg_2_3, tg_2_5, gv_1_1, gv_1_13, xD1, xD2, xD3, xD4, xD5, xD6, xb1_0] at g
    refine ⟨none, _, g, rfl, UP_str hl rfl ok0.1 h11 okC.1 ld x2 x1 b1 b2 rq ln gq (fun i hi => by rw [xp_ne n1]; exact g1 i hi) (by rw [xp_ne n1]; exact g4) (fun j => by rw [xp_ne (by omega)]; exact g47 j) (fun c c1 c2 c3 => by rw [xp_ne c3]; exact gc c c1 c2) (fun i => by rw [xp_at, gc _ (by omega) (by omega)])⟩
  · have w := sw100_8
    have h := call_runP 2 vm_X2_undo h
    have h := xw_top (hd := []) 15 xD6_ok xc_X2_undo xa_X2_undo (t := 0) rfl h
    simp (maxDischargeDepth := 12) -implicitDefEqProofs [vb_X2_undo_0, vb_X2_undo_60, vb_X2_undo_79, vb_X2_undo_87, vb_X2_undo_108, vb_X2_undo_127, vb_X2_undo_138, vb_X2_undo_149, vb_X2_undo_160, vb_X2_undo_179, vb_X2_undo_190, vb_X2_undo_209, vb_X2_undo_243, xI_0, xI_7, xI_15, xI_33, xI_36, xI_49, xI_50, xI_53, xI_61, xI_65, xI_100, xw_X2_undo_0, xw_X2_undo_60, xw_X2_undo_79, xw_X2_undo_87, xw_X2_undo_108, xw_X2_undo_127, xw_X2_undo_138, xw_X2_undo_149, xw_X2_undo_160, xw_X2_undo_179, xw_X2_undo_190, xw_X2_undo_209, xw_X2_undo_243, zw_lit, xB_c, xB_s, xB_n, i1_c, j2_c, k1_c, jJ_e, xlg, xls, xla, xpd, ppush, zw_m1, zw_m2, zw_m3, gf_0_4, gf_0_5, gf_1_1, gf_1_13, gf_2_0, gf_2_1, gf_2_2, gf_2_3, gf_2_5, pf_0_3, pf_0_4, pf_0_5, pf_1_7, pf_1_8, pf_1_9, pf_1_10, pf_1_11, pf_1_12, pf_1_13, pf_2_197, tg_0_3, tg_0_4, tg_0_5, tg_1_1, tg_1_10, tg_1_11, tg_1_12, tg_1_13, tg_1_7, tg_1_8, tg_1_9, tg_2_0, tg_2_1, tg_2_2, tg_2_3, tg_2_5, gv_1_1, gv_1_13, xD1, xD2, xD3, xD4, xD5, xD6, xb1_0, gD0, gD1, gD2, gD3, e0, w] at h
    refine ⟨none, _, h, rfl, UP_num ok0.1 ld x2 (CI_set ok0.1 h11 x1 (fun c c1 => xp_ne c1) (fun i hi => by rw [xp_at, if_neg (by omega)]) (fun i hi => xup_n (by omega)) ?_) rq (fun i hi => xup_n (by omega)) (fun c c1 _ => xp_ne c1) (by rw [xp_at, if_neg (by decide), xp_at, if_neg (by decide)]; exact ⟨rfl, rfl⟩)⟩
    simp only [xp_at, xup]
    simp [s3, s4, s5, s6, s7, s8, s9]
  · have w := sw100_9
    have n2 : ¬ 469 + 6 * l = 1 := by omega
    have h := call_runP 2 vm_X2_undo h
    have h := xw_top (hd := []) 15 xD6_ok xc_X2_undo xa_X2_undo (t := 0) rfl h
    simp (maxDischargeDepth := 12) -implicitDefEqProofs [vb_X2_undo_0, vb_X2_undo_60, vb_X2_undo_79, vb_X2_undo_87, vb_X2_undo_108, vb_X2_undo_127, vb_X2_undo_138, vb_X2_undo_149, vb_X2_undo_160, vb_X2_undo_179, vb_X2_undo_190, vb_X2_undo_209, vb_X2_undo_243, xI_0, xI_7, xI_15, xI_33, xI_36, xI_49, xI_50, xI_53, xI_61, xI_65, xI_100, xw_X2_undo_0, xw_X2_undo_60, xw_X2_undo_79, xw_X2_undo_87, xw_X2_undo_108, xw_X2_undo_127, xw_X2_undo_138, xw_X2_undo_149, xw_X2_undo_160, xw_X2_undo_179, xw_X2_undo_190, xw_X2_undo_209, xw_X2_undo_243, zw_lit, xB_c, xB_s, xB_n, i1_c, j2_c, k1_c, jJ_e, xlg, xls, xla, xpd, ppush, zw_m1, zw_m2, zw_m3, gf_0_4, gf_0_5, gf_1_1, gf_1_13, gf_2_0, gf_2_1, gf_2_2, gf_2_3, gf_2_5, pf_0_3, pf_0_4, pf_0_5, pf_1_7, pf_1_8, pf_1_9, pf_1_10, pf_1_11, pf_1_12, pf_1_13, pf_2_197, tg_0_3, tg_0_4, tg_0_5, tg_1_1, tg_1_10, tg_1_11, tg_1_12, tg_1_13, tg_1_7, tg_1_8, tg_1_9, tg_2_0, tg_2_1, tg_2_2, tg_2_3, tg_2_5, gv_1_1, gv_1_13, xD1, xD2, xD3, xD4, xD5, xD6, xb1_0, gD0, gD1, gD2, gD3, e0, w, xp_ne, n1, n2] at h
    refine ⟨none, _, h, rfl, UP_num ok0.1 ld x2 (CI_set ok0.1 h11 x1 (fun c c1 => by rw [xp_ne c1, xp_ne c1]) (fun i hi => by rw [xp_at, if_neg (by omega), xp_at, if_neg (by omega)]) (fun i hi => by rw [xup_n (by omega), xup_n (by omega)]) ?_) rq (fun i hi => by rw [xup_n (by omega), xup_n (by omega)]) (fun c c1 _ => by rw [xp_ne c1, xp_ne c1]) (by simp only [xp_at]; exact ⟨rfl, rfl⟩)⟩
    simp only [xp_at, xup]
    simp [s3, s4, s5, s6, s7, s8, s9]
  · have w := sw100_d
    have g46 : ∀ X : PH, gv X 46 (H (469 + 6 * l) 1) = 57 + 3 * H (469 + 6 * l) 1 := fun X => gv46 b1.1 (by omega)
    have kb : ∀ X : PH, gv X (57 + 3 * H (469 + 6 * l) 1) 4 = X (57 + 3 * H (469 + 6 * l) 1) 4 := (KB_f (KB_of b1.1 (by omega))).2.2.2.2.2.2.1
    have gb := x1.1.2.1 _ b1.1 b1.2
    have e6 := gb.2.2.2.2.2.1
    have e4 := gb.2.2.2.2.1
    have r6 := ok0.1.2.2.2.2.1 _ b1.1 (by omega)
    have r8 := ok0.1.2.2.2.1 _ b1.1 (by omega)
    have n57 : ¬ (1 : Int) = 57 + 3 * H (469 + 6 * l) 1 := by omega
    have n58 : ¬ 469 + 6 * l = 57 + 3 * H (469 + 6 * l) 1 := by omega
    have h := call_runP 2 vm_X2_undo h
    have h := xw_top (hd := []) 15 xD6_ok xc_X2_undo xa_X2_undo (t := 0) rfl h
    simp (maxDischargeDepth := 12) -implicitDefEqProofs [vb_X2_undo_0, vb_X2_undo_60, vb_X2_undo_79, vb_X2_undo_87, vb_X2_undo_108, vb_X2_undo_127, vb_X2_undo_138, vb_X2_undo_149, vb_X2_undo_160, vb_X2_undo_179, vb_X2_undo_190, vb_X2_undo_209, vb_X2_undo_243, xI_0, xI_7, xI_15, xI_33, xI_36, xI_49, xI_50, xI_53, xI_61, xI_65, xI_100, xw_X2_undo_0, xw_X2_undo_60, xw_X2_undo_79, xw_X2_undo_87, xw_X2_undo_108, xw_X2_undo_127, xw_X2_undo_138, xw_X2_undo_149, xw_X2_undo_160, xw_X2_undo_179, xw_X2_undo_190, xw_X2_undo_209, xw_X2_undo_243, zw_lit, xB_c, xB_s, xB_n, i1_c, j2_c, k1_c, jJ_e, xlg, xls, xla, xpd, ppush, zw_m1, zw_m2, zw_m3, gf_0_4, gf_0_5, gf_1_1, gf_1_13, gf_2_0, gf_2_1, gf_2_2, gf_2_3, gf_2_5, pf_0_3, pf_0_4, pf_0_5, pf_1_7, pf_1_8, pf_1_9, pf_1_10, pf_1_11, pf_1_12, pf_1_13, pf_2_197, tg_0_3, tg_0_4, tg_0_5, tg_1_1, tg_1_10, tg_1_11, tg_1_12, tg_1_13, tg_1_7, tg_1_8, tg_1_9, tg_2_0, tg_2_1, tg_2_2, tg_2_3, tg_2_5, gv_1_1, gv_1_13, xD1, xD2, xD3, xD4, xD5, xD6, xb1_0, gD0, gD1, gD2, gD3, e0, w, g46, kb, xp_ne, n57, n58] at h
    refine ⟨none, _, h, rfl, UP_num ok0.1 ld x2 (CI_bill ok0.1 h11 x1 b1 (fun c c1 c2 _ _ => by rw [xp_ne c1, xp_ne c2]) (fun i hi => by rw [xp_at, if_neg hi, xp_ne n57]) (fun i hi h9 => by rw [xup_n h9, xup_n (by omega)]) ?_ ?_) rq (fun i hi => by rw [xup_n (by omega), xup_n (by omega)]) (fun c c1 c2 => by rw [xp_ne c1, xp_ne (by omega)]) (by rw [xp_at, if_neg (by decide), xp_ne n57, xp_at, if_neg (by decide), xp_ne n57]; exact ⟨rfl, rfl⟩)⟩
    · rw [xup_a, xp_at, if_pos rfl, s9]
    · obtain ⟨t1, t2, t3, t4, t5, t6, t7⟩ := gb
      have e : ∀ i v u, pup (pup H (57 + 3 * H (469 + 6 * l) 1) 4 v) 1 13 u (57 + 3 * H (469 + 6 * l) 1) i = if i = 4 then v else H (57 + 3 * H (469 + 6 * l) 1) i := fun i v u => by rw [xp_ne (fun w => n57 w.symm), xp_at]
      unfold BRr
      rw [e, e, e, e, e, e, if_neg (by decide), if_neg (by decide), if_neg (by decide), if_pos rfl, if_neg (by decide), if_neg (by decide), xp_ne (by omega), xp_ne (by omega), xp_ne (by omega), xp_ne (by omega)]
      have B0 : ∀ j v u, ¬ j = 9 → ¬ j = 92 + 26 * H (469 + 6 * l) 1 + 12 → xup (xup A (92 + 26 * H (469 + 6 * l) 1 + 12) v) 9 u j = A j := fun j v u j1 j2 => by rw [xup_n j1, xup_n j2]
      rw [B0 _ _ _ (by omega) (by omega), B0 _ _ _ (by omega) (by omega), B0 _ _ _ (by omega) (by omega), B0 _ _ _ (by omega) (by omega), B0 (92 + 26 * H (469 + 6 * l) 1 + 13) _ _ (by omega) (by omega), xup_n (by omega), xup_a]
      exact ⟨VM_congr t1 rfl (fun i i0 i1 => (B0 _ _ _ (by omega) (by omega)).symm), t2, t3, t4, by rw [e4], t6, fun i i0 i1 => by rw [B0 _ _ _ (by omega) (by omega), B0 _ _ _ (by omega) (by omega)]; exact t7 i i0 i1⟩
