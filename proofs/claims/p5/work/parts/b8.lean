/-! the model's law, the whole -/
set_option maxRecDepth 100000 in
theorem lp_rlaw (sz : Int) (T : Int → Int) (hT0 : ∀ i, 0 ≤ i → i < sz → 0 ≤ T i ∧ T i ≤ 255) (R : Option (Int × List Int)) {E : xE} {res : xR} : ∀ (n : Nat) (o : Nat) (x : Int) (s : LwS) (H : PH), EST sz T R o s H → RUN E res n kd_X12_readLaw (zget kd_X12_readLaw 52) 52 [590, 1, x] [] H → ∃ H' : PH, MFl H H' ∧ ((∃ q, R = some q ∧ H' 590 10 = q.2.length ∧ H' 590 11 = q.1 ∧ (∀ k : Nat, k < q.2.length → H' 595 k = q.2.getD k 0) ∧ REPR E res (some (0, 1)) H') ∨ (R = none ∧ REPR E res (some (0, 0)) H')) := by
  intro n
  induction n using Nat.strongRecOn with
  | _ n ih =>
    intro o x s H hE h
    have h := xw_top (hd := [52]) 13 xD6_ok xc_X12_readLaw xa_X12_readLaw (t := 52) rfl h
    simp (maxDischargeDepth := 12) -implicitDefEqProofs [vb_X12_readLaw_0, vb_X12_readLaw_50, vb_X12_readLaw_51, vb_X12_readLaw_52, vb_X12_readLaw_68, vb_X12_readLaw_79, vb_X12_readLaw_83, vb_X12_readLaw_84, vb_X12_readLaw_88, vb_X12_readLaw_100, vb_X12_readLaw_101, xI_0, xI_1, xI_3, xI_7, xI_36, xI_37, xI_42, xI_44, xI_49, xI_50, xI_52, xI_61, xI_62, xw_X12_readLaw_0, xw_X12_readLaw_50, xw_X12_readLaw_51, xw_X12_readLaw_52, xw_X12_readLaw_68, xw_X12_readLaw_79, xw_X12_readLaw_83, xw_X12_readLaw_84, xw_X12_readLaw_88, xw_X12_readLaw_100, xw_X12_readLaw_101, zw_lit, xB_c, xB_s, xB_n, i1_c, j2_c, k1_c, jJ_e, xlg, xls, xla, xpd, ppush, zw_m1, zw_m2, zw_m3, gf_12_4, gf_12_6, gf_12_12, gf_12_13, pf_12_5, pf_12_6, pf_12_10, pf_12_11, pf_12_14, tg_12_10, tg_12_11, tg_12_12, tg_12_13, tg_12_14, tg_12_4, tg_12_5, tg_12_6, gv_590_4, gv_590_6, gv_590_12, gv_590_13, xD1, xD2, xD3, xD4, xD5, xD6, xb1_0] at h
    obtain ⟨r, H1, ⟨mf, g5⟩, g⟩ := xc_use h (sp_X12_readThing sz T hT0 R o s H hE)
    rcases g5 with ⟨rfl, k⟩ | ⟨rfl, o1, s1, k⟩ | ⟨rfl, o1, s1, k⟩
    · simp (maxDischargeDepth := 12) -implicitDefEqProofs [vb_X12_readLaw_0, vb_X12_readLaw_50, vb_X12_readLaw_51, vb_X12_readLaw_52, vb_X12_readLaw_68, vb_X12_readLaw_79, vb_X12_readLaw_83, vb_X12_readLaw_84, vb_X12_readLaw_88, vb_X12_readLaw_100, vb_X12_readLaw_101, xI_0, xI_1, xI_3, xI_7, xI_36, xI_37, xI_42, xI_44, xI_49, xI_50, xI_52, xI_61, xI_62, xw_X12_readLaw_0, xw_X12_readLaw_50, xw_X12_readLaw_51, xw_X12_readLaw_52, xw_X12_readLaw_68, xw_X12_readLaw_79, xw_X12_readLaw_83, xw_X12_readLaw_84, xw_X12_readLaw_88, xw_X12_readLaw_100, xw_X12_readLaw_101, zw_lit, xB_c, xB_s, xB_n, i1_c, j2_c, k1_c, jJ_e, xlg, xls, xla, xpd, ppush, zw_m1, zw_m2, zw_m3, gf_12_4, gf_12_6, gf_12_12, gf_12_13, pf_12_5, pf_12_6, pf_12_10, pf_12_11, pf_12_14, tg_12_10, tg_12_11, tg_12_12, tg_12_13, tg_12_14, tg_12_4, tg_12_5, tg_12_6, gv_590_4, gv_590_6, gv_590_12, gv_590_13, xD1, xD2, xD3, xD4, xD5, xD6, xb1_0] at g
      exact ⟨H1, mf, Or.inr ⟨k, g⟩⟩
    · simp (maxDischargeDepth := 12) -implicitDefEqProofs [vb_X12_readLaw_0, vb_X12_readLaw_50, vb_X12_readLaw_51, vb_X12_readLaw_52, vb_X12_readLaw_68, vb_X12_readLaw_79, vb_X12_readLaw_83, vb_X12_readLaw_84, vb_X12_readLaw_88, vb_X12_readLaw_100, vb_X12_readLaw_101, xI_0, xI_1, xI_3, xI_7, xI_36, xI_37, xI_42, xI_44, xI_49, xI_50, xI_52, xI_61, xI_62, xw_X12_readLaw_0, xw_X12_readLaw_50, xw_X12_readLaw_51, xw_X12_readLaw_52, xw_X12_readLaw_68, xw_X12_readLaw_79, xw_X12_readLaw_83, xw_X12_readLaw_84, xw_X12_readLaw_88, xw_X12_readLaw_100, xw_X12_readLaw_101, zw_lit, xB_c, xB_s, xB_n, i1_c, j2_c, k1_c, jJ_e, xlg, xls, xla, xpd, ppush, zw_m1, zw_m2, zw_m3, gf_12_4, gf_12_6, gf_12_12, gf_12_13, pf_12_5, pf_12_6, pf_12_10, pf_12_11, pf_12_14, tg_12_10, tg_12_11, tg_12_12, tg_12_13, tg_12_14, tg_12_4, tg_12_5, tg_12_6, gv_590_4, gv_590_6, gv_590_12, gv_590_13, xD1, xD2, xD3, xD4, xD5, xD6, xb1_0] at g
      obtain ⟨r, H2, ⟨mf2, g6⟩, g⟩ := xc_use g (sp_X12_goesOn sz T R o1 s1 H1 k)
      rcases g6 with ⟨rfl, o2, s2, k2⟩ | ⟨rfl, k2⟩
      · simp (maxDischargeDepth := 12) -implicitDefEqProofs [vb_X12_readLaw_0, vb_X12_readLaw_50, vb_X12_readLaw_51, vb_X12_readLaw_52, vb_X12_readLaw_68, vb_X12_readLaw_79, vb_X12_readLaw_83, vb_X12_readLaw_84, vb_X12_readLaw_88, vb_X12_readLaw_100, vb_X12_readLaw_101, xI_0, xI_1, xI_3, xI_7, xI_36, xI_37, xI_42, xI_44, xI_49, xI_50, xI_52, xI_61, xI_62, xw_X12_readLaw_0, xw_X12_readLaw_50, xw_X12_readLaw_51, xw_X12_readLaw_52, xw_X12_readLaw_68, xw_X12_readLaw_79, xw_X12_readLaw_83, xw_X12_readLaw_84, xw_X12_readLaw_88, xw_X12_readLaw_100, xw_X12_readLaw_101, zw_lit, xB_c, xB_s, xB_n, i1_c, j2_c, k1_c, jJ_e, xlg, xls, xla, xpd, ppush, zw_m1, zw_m2, zw_m3, gf_12_4, gf_12_6, gf_12_12, gf_12_13, pf_12_5, pf_12_6, pf_12_10, pf_12_11, pf_12_14, tg_12_10, tg_12_11, tg_12_12, tg_12_13, tg_12_14, tg_12_4, tg_12_5, tg_12_6, gv_590_4, gv_590_6, gv_590_12, gv_590_13, xD1, xD2, xD3, xD4, xD5, xD6, xb1_0] at g
        obtain ⟨m, hm, g⟩ := g
        obtain ⟨H', k3, k4⟩ := ih m hm o2 _ s2 H2 k2 g
        exact ⟨H', MFl_trans mf (MFl_trans mf2 k3), k4⟩
      · simp (maxDischargeDepth := 12) -implicitDefEqProofs [vb_X12_readLaw_0, vb_X12_readLaw_50, vb_X12_readLaw_51, vb_X12_readLaw_52, vb_X12_readLaw_68, vb_X12_readLaw_79, vb_X12_readLaw_83, vb_X12_readLaw_84, vb_X12_readLaw_88, vb_X12_readLaw_100, vb_X12_readLaw_101, xI_0, xI_1, xI_3, xI_7, xI_36, xI_37, xI_42, xI_44, xI_49, xI_50, xI_52, xI_61, xI_62, xw_X12_readLaw_0, xw_X12_readLaw_50, xw_X12_readLaw_51, xw_X12_readLaw_52, xw_X12_readLaw_68, xw_X12_readLaw_79, xw_X12_readLaw_83, xw_X12_readLaw_84, xw_X12_readLaw_88, xw_X12_readLaw_100, xw_X12_readLaw_101, zw_lit, xB_c, xB_s, xB_n, i1_c, j2_c, k1_c, jJ_e, xlg, xls, xla, xpd, ppush, zw_m1, zw_m2, zw_m3, gf_12_4, gf_12_6, gf_12_12, gf_12_13, pf_12_5, pf_12_6, pf_12_10, pf_12_11, pf_12_14, tg_12_10, tg_12_11, tg_12_12, tg_12_13, tg_12_14, tg_12_4, tg_12_5, tg_12_6, gv_590_4, gv_590_6, gv_590_12, gv_590_13, xD1, xD2, xD3, xD4, xD5, xD6, xb1_0] at g
        obtain ⟨m, hm, g⟩ := g
        rcases k2 with ⟨q, k3, k4, k5, k6, k7⟩ | ⟨k3, k4⟩
        · have g := xw_top (hd := [52]) 13 xD6_ok xc_X12_readLaw xa_X12_readLaw (t := 52) rfl g
          simp (maxDischargeDepth := 12) -implicitDefEqProofs [vb_X12_readLaw_0, vb_X12_readLaw_50, vb_X12_readLaw_51, vb_X12_readLaw_52, vb_X12_readLaw_68, vb_X12_readLaw_79, vb_X12_readLaw_83, vb_X12_readLaw_84, vb_X12_readLaw_88, vb_X12_readLaw_100, vb_X12_readLaw_101, xI_0, xI_1, xI_3, xI_7, xI_36, xI_37, xI_42, xI_44, xI_49, xI_50, xI_52, xI_61, xI_62, xw_X12_readLaw_0, xw_X12_readLaw_50, xw_X12_readLaw_51, xw_X12_readLaw_52, xw_X12_readLaw_68, xw_X12_readLaw_79, xw_X12_readLaw_83, xw_X12_readLaw_84, xw_X12_readLaw_88, xw_X12_readLaw_100, xw_X12_readLaw_101, zw_lit, xB_c, xB_s, xB_n, i1_c, j2_c, k1_c, jJ_e, xlg, xls, xla, xpd, ppush, zw_m1, zw_m2, zw_m3, gf_12_4, gf_12_6, gf_12_12, gf_12_13, pf_12_5, pf_12_6, pf_12_10, pf_12_11, pf_12_14, tg_12_10, tg_12_11, tg_12_12, tg_12_13, tg_12_14, tg_12_4, tg_12_5, tg_12_6, gv_590_4, gv_590_6, gv_590_12, gv_590_13, xD1, xD2, xD3, xD4, xD5, xD6, xb1_0, k7] at g
          exact ⟨H2, MFl_trans mf mf2, Or.inl ⟨q, k3, k4, k5, k6, g⟩⟩
        · have g := xw_top (hd := [52]) 13 xD6_ok xc_X12_readLaw xa_X12_readLaw (t := 52) rfl g
          simp (maxDischargeDepth := 12) -implicitDefEqProofs [vb_X12_readLaw_0, vb_X12_readLaw_50, vb_X12_readLaw_51, vb_X12_readLaw_52, vb_X12_readLaw_68, vb_X12_readLaw_79, vb_X12_readLaw_83, vb_X12_readLaw_84, vb_X12_readLaw_88, vb_X12_readLaw_100, vb_X12_readLaw_101, xI_0, xI_1, xI_3, xI_7, xI_36, xI_37, xI_42, xI_44, xI_49, xI_50, xI_52, xI_61, xI_62, xw_X12_readLaw_0, xw_X12_readLaw_50, xw_X12_readLaw_51, xw_X12_readLaw_52, xw_X12_readLaw_68, xw_X12_readLaw_79, xw_X12_readLaw_83, xw_X12_readLaw_84, xw_X12_readLaw_88, xw_X12_readLaw_100, xw_X12_readLaw_101, zw_lit, xB_c, xB_s, xB_n, i1_c, j2_c, k1_c, jJ_e, xlg, xls, xla, xpd, ppush, zw_m1, zw_m2, zw_m3, gf_12_4, gf_12_6, gf_12_12, gf_12_13, pf_12_5, pf_12_6, pf_12_10, pf_12_11, pf_12_14, tg_12_10, tg_12_11, tg_12_12, tg_12_13, tg_12_14, tg_12_4, tg_12_5, tg_12_6, gv_590_4, gv_590_6, gv_590_12, gv_590_13, xD1, xD2, xD3, xD4, xD5, xD6, xb1_0, k4] at g
          exact ⟨H2, MFl_trans mf mf2, Or.inr ⟨k3, g⟩⟩
    · simp (maxDischargeDepth := 12) -implicitDefEqProofs [vb_X12_readLaw_0, vb_X12_readLaw_50, vb_X12_readLaw_51, vb_X12_readLaw_52, vb_X12_readLaw_68, vb_X12_readLaw_79, vb_X12_readLaw_83, vb_X12_readLaw_84, vb_X12_readLaw_88, vb_X12_readLaw_100, vb_X12_readLaw_101, xI_0, xI_1, xI_3, xI_7, xI_36, xI_37, xI_42, xI_44, xI_49, xI_50, xI_52, xI_61, xI_62, xw_X12_readLaw_0, xw_X12_readLaw_50, xw_X12_readLaw_51, xw_X12_readLaw_52, xw_X12_readLaw_68, xw_X12_readLaw_79, xw_X12_readLaw_83, xw_X12_readLaw_84, xw_X12_readLaw_88, xw_X12_readLaw_100, xw_X12_readLaw_101, zw_lit, xB_c, xB_s, xB_n, i1_c, j2_c, k1_c, jJ_e, xlg, xls, xla, xpd, ppush, zw_m1, zw_m2, zw_m3, gf_12_4, gf_12_6, gf_12_12, gf_12_13, pf_12_5, pf_12_6, pf_12_10, pf_12_11, pf_12_14, tg_12_10, tg_12_11, tg_12_12, tg_12_13, tg_12_14, tg_12_4, tg_12_5, tg_12_6, gv_590_4, gv_590_6, gv_590_12, gv_590_13, xD1, xD2, xD3, xD4, xD5, xD6, xb1_0] at g
      obtain ⟨m, hm, g⟩ := g
      obtain ⟨H', k3, k4⟩ := ih m hm o1 _ s1 H1 k g
      exact ⟨H', MFl_trans mf k3, k4⟩
set_option maxRecDepth 100000 in
theorem sp_X12_readLaw (sz : Int) (T : Int → Int) (H : PH) (hT0 : ∀ i, 0 ≤ i → i < sz → 0 ≤ T i ∧ T i ≤ 255) (h4 : H 590 4 = sz) (hs : 0 ≤ sz ∧ sz ≤ 600) (hb : ∀ i, 0 ≤ i → i < sz → q2 (· &&& ·) (H 593 i) 255 = T i) : SPEC 188 [(2, 590)] H (fun r H' => MFl H H' ∧ ((∃ q, lwAll T sz = some q ∧ H' 590 10 = q.2.length ∧ H' 590 11 = q.1 ∧ (∀ k : Nat, k < q.2.length → H' 595 k = q.2.getD k 0) ∧ r = some (0, 1)) ∨ (lwAll T sz = none ∧ r = some (0, 0)))) := by
  intro E n res h
  obtain ⟨X, hX⟩ : ∃ X : PH, X = pup (pup (pup (pup (pup (pup (pup H 590 5 0) 590 6 (-1)) 590 10 0) 590 11 0) 590 14 0) 596 0 0) 597 0 0 := ⟨_, rfl⟩
  have mf : MFl H X := by
    rw [hX]
    exact MFl_trans (MFl_up (by decide)) (MFl_trans (MFl_up (by decide)) (MFl_trans (MFl_up (by decide)) (MFl_trans (MFl_up (by decide)) (MFl_trans (MFl_up (by decide)) (MFl_trans (MFl_up (by decide)) (MFl_up (by decide)))))))
  by_cases z0 : sz = 0
  · have z1 : ¬ 0 < sz := by omega
    have z2 : sz ≤ 0 := by omega
    have h := call_runP 3 vm_X12_readLaw h
    have h := xw_top (hd := [52]) 13 xD6_ok xc_X12_readLaw xa_X12_readLaw (t := 0) rfl h
    simp (maxDischargeDepth := 12) -implicitDefEqProofs [vb_X12_readLaw_0, vb_X12_readLaw_50, vb_X12_readLaw_51, vb_X12_readLaw_52, vb_X12_readLaw_68, vb_X12_readLaw_79, vb_X12_readLaw_83, vb_X12_readLaw_84, vb_X12_readLaw_88, vb_X12_readLaw_100, vb_X12_readLaw_101, xI_0, xI_1, xI_3, xI_7, xI_36, xI_37, xI_42, xI_44, xI_49, xI_50, xI_52, xI_61, xI_62, xw_X12_readLaw_0, xw_X12_readLaw_50, xw_X12_readLaw_51, xw_X12_readLaw_52, xw_X12_readLaw_68, xw_X12_readLaw_79, xw_X12_readLaw_83, xw_X12_readLaw_84, xw_X12_readLaw_88, xw_X12_readLaw_100, xw_X12_readLaw_101, zw_lit, xB_c, xB_s, xB_n, i1_c, j2_c, k1_c, jJ_e, xlg, xls, xla, xpd, ppush, zw_m1, zw_m2, zw_m3, gf_12_4, gf_12_6, gf_12_12, gf_12_13, pf_12_5, pf_12_6, pf_12_10, pf_12_11, pf_12_14, tg_12_10, tg_12_11, tg_12_12, tg_12_13, tg_12_14, tg_12_4, tg_12_5, tg_12_6, gv_590_4, gv_590_6, gv_590_12, gv_590_13, xD1, xD2, xD3, xD4, xD5, xD6, xb1_0, xp_at, xp_ne, h4, z0, z1, z2] at h
    obtain ⟨m, hm, h⟩ := h
    rw [← hX] at h
    have e6 : X 590 6 = -1 := by rw [hX]; simp [xp_at, xp_ne]
    have h := xw_top (hd := [52]) 13 xD6_ok xc_X12_readLaw xa_X12_readLaw (t := 52) rfl h
    simp (maxDischargeDepth := 12) -implicitDefEqProofs [vb_X12_readLaw_0, vb_X12_readLaw_50, vb_X12_readLaw_51, vb_X12_readLaw_52, vb_X12_readLaw_68, vb_X12_readLaw_79, vb_X12_readLaw_83, vb_X12_readLaw_84, vb_X12_readLaw_88, vb_X12_readLaw_100, vb_X12_readLaw_101, xI_0, xI_1, xI_3, xI_7, xI_36, xI_37, xI_42, xI_44, xI_49, xI_50, xI_52, xI_61, xI_62, xw_X12_readLaw_0, xw_X12_readLaw_50, xw_X12_readLaw_51, xw_X12_readLaw_52, xw_X12_readLaw_68, xw_X12_readLaw_79, xw_X12_readLaw_83, xw_X12_readLaw_84, xw_X12_readLaw_88, xw_X12_readLaw_100, xw_X12_readLaw_101, zw_lit, xB_c, xB_s, xB_n, i1_c, j2_c, k1_c, jJ_e, xlg, xls, xla, xpd, ppush, zw_m1, zw_m2, zw_m3, gf_12_4, gf_12_6, gf_12_12, gf_12_13, pf_12_5, pf_12_6, pf_12_10, pf_12_11, pf_12_14, tg_12_10, tg_12_11, tg_12_12, tg_12_13, tg_12_14, tg_12_4, tg_12_5, tg_12_6, gv_590_4, gv_590_6, gv_590_12, gv_590_13, xD1, xD2, xD3, xD4, xD5, xD6, xb1_0, e6] at h
    have e : lwAll T sz = some (0, []) := by
      unfold lwAll
      rw [if_pos z2]
    exact ⟨_, X, h, mf, Or.inl ⟨(0, []), e, by rw [hX]; simp [xp_at, xp_ne], by rw [hX]; simp [xp_at, xp_ne], fun k hk => by have : k < 0 := hk; omega, rfl⟩⟩
  · have z1 : 0 < sz := by omega
    have z2 : ¬ sz ≤ 0 := by omega
    have h := call_runP 3 vm_X12_readLaw h
    have h := xw_top (hd := [52]) 13 xD6_ok xc_X12_readLaw xa_X12_readLaw (t := 0) rfl h
    simp (maxDischargeDepth := 12) -implicitDefEqProofs [vb_X12_readLaw_0, vb_X12_readLaw_50, vb_X12_readLaw_51, vb_X12_readLaw_52, vb_X12_readLaw_68, vb_X12_readLaw_79, vb_X12_readLaw_83, vb_X12_readLaw_84, vb_X12_readLaw_88, vb_X12_readLaw_100, vb_X12_readLaw_101, xI_0, xI_1, xI_3, xI_7, xI_36, xI_37, xI_42, xI_44, xI_49, xI_50, xI_52, xI_61, xI_62, xw_X12_readLaw_0, xw_X12_readLaw_50, xw_X12_readLaw_51, xw_X12_readLaw_52, xw_X12_readLaw_68, xw_X12_readLaw_79, xw_X12_readLaw_83, xw_X12_readLaw_84, xw_X12_readLaw_88, xw_X12_readLaw_100, xw_X12_readLaw_101, zw_lit, xB_c, xB_s, xB_n, i1_c, j2_c, k1_c, jJ_e, xlg, xls, xla, xpd, ppush, zw_m1, zw_m2, zw_m3, gf_12_4, gf_12_6, gf_12_12, gf_12_13, pf_12_5, pf_12_6, pf_12_10, pf_12_11, pf_12_14, tg_12_10, tg_12_11, tg_12_12, tg_12_13, tg_12_14, tg_12_4, tg_12_5, tg_12_6, gv_590_4, gv_590_6, gv_590_12, gv_590_13, xD1, xD2, xD3, xD4, xD5, xD6, xb1_0, xp_at, xp_ne, h4, z1, z2] at h
    obtain ⟨m, hm, h⟩ := h
    rw [← hX] at h
    have X4 : X 590 4 = H 590 4 := by rw [hX]; simp [xp_at, xp_ne]
    have X5 : X 590 5 = 0 := by rw [hX]; simp [xp_at, xp_ne]
    have X6 : X 596 0 = 0 := by rw [hX]; simp [xp_at, xp_ne]
    have X7 : X 597 0 = 0 := by rw [hX]; simp [xp_at, xp_ne]
    have es : EST sz T (lwAll T sz) 0 (0, 0, []) X := by
      refine ⟨⟨⟨by rw [X4]; exact h4, fun i i0 i1 => by rw [mf.1 593 (by decide) (by decide) (by decide) (by decide)]; exact hb i i0 i1, X5, Int.le_refl _, hs.1, hs.2⟩, by rw [hX]; simp [xp_at, xp_ne], by rw [hX]; simp [xp_at, xp_ne], fun k hk => by have : k < 0 := hk; omega, by rw [hX]; simp [xp_at, xp_ne], by rw [hX]; simp [xp_at, xp_ne]⟩, ⟨by decide, hs.1, by decide, by decide, by decide⟩, ?_, by decide, fun j j0 j1 => ?_, kE_all z1 X6 X7⟩
      · unfold pnF
        rw [X6, X7]
        decide
      · have : j = 0 := by omega
        rw [this, X6, X7]
        decide
    obtain ⟨H', k1, k2⟩ := lp_rlaw sz T hT0 _ m 0 _ _ X es h
    rcases k2 with ⟨q, k3, k4, k5, k6, k7⟩ | ⟨k3, k4⟩
    · exact ⟨_, H', k7, MFl_trans mf k1, Or.inl ⟨q, k3, k4, k5, k6, rfl⟩⟩
    · exact ⟨_, H', k4, MFl_trans mf k1, Or.inr ⟨k3, rfl⟩⟩
/-- what calls of the model leave as it is -/
def MO (H H' : PH) : Prop := (∀ c, c < 590 → H' c = H c) ∧ (H' 590 51 = H 590 51 ∧ H' 621 = H 621) ∧ H' 593 = H 593
theorem MO_refl {H : PH} : MO H H := ⟨fun _ _ => rfl, ⟨rfl, rfl⟩, rfl⟩
theorem MO_trans {H H1 H2 : PH} (a : MO H H1) (b : MO H1 H2) : MO H H2 := ⟨fun c h => (b.1 c h).trans (a.1 c h), ⟨b.2.1.1.trans a.2.1.1, b.2.1.2.trans a.2.1.2⟩, b.2.2.trans a.2.2⟩
theorem MO_l {H H' : PH} (f : MFl H H') : MO H H' := ⟨fun c h => f.1 c (by omega) (by omega) (by omega) (by omega), ⟨f.2 51 (by decide) (by decide) (by decide), f.1 621 (by decide) (by decide) (by decide) (by decide)⟩, f.1 593 (by decide) (by decide) (by decide) (by decide)⟩
theorem MO_up {H : PH} {c i v : Int} (h : (c = 590 ∧ ¬ i = 51) ∨ (591 ≤ c ∧ c ≤ 620 ∧ ¬ c = 593)) : MO H (pup H c i v) := ⟨fun d h1 => xp_ne (by omega), ⟨by
  by_cases e : c = 590
  · subst e
    rw [xp_at, if_neg (by omega)]
  · rw [xp_ne (fun w => e w.symm)], xp_ne (by omega)⟩, xp_ne (by omega)⟩
set_option maxRecDepth 100000 in
theorem lp_law44 (N x0 x1 : Int) (hN : 0 ≤ N ∧ N ≤ 60) {E : xE} {res : xR} (H0 : PH) : ∀ (n : Nat) (k : Int) (H : PH), 0 ≤ k → k ≤ N → H 590 10 = N → (∀ c, ¬ c = 591 → H c = H0 c) → (∀ j, H 591 j = if 12 ≤ j ∧ j < 12 + k then H0 595 (j - 12) else H0 591 j) → RUN E res n kd_X12_law (zget kd_X12_law 44) 44 [590, x1, k] [] H → ∃ H' : PH, (∀ c, ¬ c = 591 → H' c = H0 c) ∧ (∀ j, H' 591 j = if 12 ≤ j ∧ j < 12 + N then H0 595 (j - 12) else H0 591 j) ∧ REPR E res (some (0, H0 590 11)) H' := by
  intro n
  induction n using Nat.strongRecOn with
  | _ n ih =>
    intro k H k0 k1 h10 hF hJ h
    have e11 : H 590 11 = H0 590 11 := by rw [hF 590 (by decide)]
    have z1 : zw (k + 1) = k + 1 := zw_lit (by omega) (by omega)
    have z12 : zw (12 + k) = 12 + k := zw_lit (by omega) (by omega)
    by_cases c : k < N
    · have c' : ¬ N ≤ k := by omega
      have h := xw_top (hd := [44]) 6 xD6_ok xc_X12_law xa_X12_law (t := 44) rfl h
      simp (maxDischargeDepth := 12) -implicitDefEqProofs [vb_X12_law_0, vb_X12_law_16, vb_X12_law_44, vb_X12_law_73, xI_0, xI_1, xI_3, xI_6, xI_7, xI_8, xI_14, xI_36, xI_38, xI_46, xI_49, xI_50, xI_51, xI_52, xI_61, xI_62, xw_X12_law_0, xw_X12_law_16, xw_X12_law_44, xw_X12_law_73, zw_lit, xB_c, xB_s, xB_n, i1_c, j2_c, k1_c, jJ_e, xlg, xls, xla, xpd, ppush, zw_m1, zw_m2, zw_m3, gf_12_0, gf_12_9, gf_12_10, gf_12_11, pf_12_4, tg_12_0, tg_12_10, tg_12_11, tg_12_4, tg_12_9, gv_590_0, gv_590_9, gv_590_10, gv_590_11, xD1, xD2, xD3, xD4, xD5, xD6, xb1_0, h10, c, c', z1, z12, e11] at h
      obtain ⟨m, hm, h⟩ := h
      refine ih m hm (k + 1) _ (by omega) (by omega) (by rw [xp_ne (by decide)]; exact h10) (fun d hd => by rw [xp_ne hd]; exact hF d hd) (fun j => ?_) h
      rw [xp_at, hJ j]
      by_cases e : j = 12 + k
      · rw [if_pos e, if_pos (by omega), hF 595 (by decide), e]
        exact congrArg (H0 595) (by omega)
      · rw [if_neg e]
        by_cases p : 12 ≤ j ∧ j < 12 + k
        · rw [if_pos p, if_pos (by omega)]
        · rw [if_neg p, if_neg (by omega)]
    · have c' : N ≤ k := by omega
      have ek : k = N := by omega
      have h := xw_top (hd := [44]) 6 xD6_ok xc_X12_law xa_X12_law (t := 44) rfl h
      simp (maxDischargeDepth := 12) -implicitDefEqProofs [vb_X12_law_0, vb_X12_law_16, vb_X12_law_44, vb_X12_law_73, xI_0, xI_1, xI_3, xI_6, xI_7, xI_8, xI_14, xI_36, xI_38, xI_46, xI_49, xI_50, xI_51, xI_52, xI_61, xI_62, xw_X12_law_0, xw_X12_law_16, xw_X12_law_44, xw_X12_law_73, zw_lit, xB_c, xB_s, xB_n, i1_c, j2_c, k1_c, jJ_e, xlg, xls, xla, xpd, ppush, zw_m1, zw_m2, zw_m3, gf_12_0, gf_12_9, gf_12_10, gf_12_11, pf_12_4, tg_12_0, tg_12_10, tg_12_11, tg_12_4, tg_12_9, gv_590_0, gv_590_9, gv_590_10, gv_590_11, xD1, xD2, xD3, xD4, xD5, xD6, xb1_0, h10, c, c', e11] at h
      exact ⟨H, hF, fun j => by rw [hJ j, ek], h⟩
set_option maxRecDepth 100000 in
theorem sp_X12_law (sz : Int) (T : Int → Int) (A : Int → Int) (R : Int → Int → Int) (n : Int) (H : PH) (hT0 : ∀ i, 0 ≤ i → i < sz → 0 ≤ T i ∧ T i ≤ 255) (h4 : H 590 4 = sz) (hs : 0 ≤ sz ∧ sz ≤ 600) (hb : ∀ i, 0 ≤ i → i < sz → q2 (· &&& ·) (H 593 i) 255 = T i) (hR : H 591 = A) (hn : 0 ≤ n ∧ n ≤ 20) (h2 : H 590 2 = n) (hK : KPr R n H) : SPEC 189 [(2, 590)] H (fun r H' => MO H H' ∧ H' 590 4 = 0 ∧ ((∃ q, lwAll T sz = some q ∧ r = some (0, q.1) ∧ H' 591 = lwB A q ∧ H' 590 2 = min 20 (n + 1) ∧ KPr (kpU R n A) (min 20 (n + 1)) H') ∨ (lwAll T sz = none ∧ r = some (0, -1) ∧ H' 591 = A ∧ H' 590 2 = n ∧ KPr R n H'))) := by
  intro E n' res h
  have h := call_runP 3 vm_X12_law h
  have h := xw_top (hd := [44]) 6 xD6_ok xc_X12_law xa_X12_law (t := 0) rfl h
  simp (maxDischargeDepth := 12) -implicitDefEqProofs [vb_X12_law_0, vb_X12_law_16, vb_X12_law_44, vb_X12_law_73, xI_0, xI_1, xI_3, xI_6, xI_7, xI_8, xI_14, xI_36, xI_38, xI_46, xI_49, xI_50, xI_51, xI_52, xI_61, xI_62, xw_X12_law_0, xw_X12_law_16, xw_X12_law_44, xw_X12_law_73, zw_lit, xB_c, xB_s, xB_n, i1_c, j2_c, k1_c, jJ_e, xlg, xls, xla, xpd, ppush, zw_m1, zw_m2, zw_m3, gf_12_0, gf_12_9, gf_12_10, gf_12_11, pf_12_4, tg_12_0, tg_12_10, tg_12_11, tg_12_4, tg_12_9, gv_590_0, gv_590_9, gv_590_10, gv_590_11, xD1, xD2, xD3, xD4, xD5, xD6, xb1_0] at h
  obtain ⟨r, H1, ⟨mf, p⟩, g⟩ := xc_use h (sp_X12_readLaw sz T H hT0 h4 hs hb)
  have e591 : H1 591 = A := by rw [mf.1 591 (by decide) (by decide) (by decide) (by decide)]; exact hR
  have e592 : H1 592 = H 592 := mf.1 592 (by decide) (by decide) (by decide) (by decide)
  have e2 : H1 590 2 = n := by rw [mf.2 2 (by decide) (by decide) (by decide)]; exact h2
  rcases p with ⟨q, e, k1, k2, k3, rfl⟩ | ⟨e, rfl⟩
  · obtain ⟨w1, w2, w3⟩ := lwAll_W e
    have l60 := w1.2.1
    simp (maxDischargeDepth := 12) -implicitDefEqProofs [vb_X12_law_0, vb_X12_law_16, vb_X12_law_44, vb_X12_law_73, xI_0, xI_1, xI_3, xI_6, xI_7, xI_8, xI_14, xI_36, xI_38, xI_46, xI_49, xI_50, xI_51, xI_52, xI_61, xI_62, xw_X12_law_0, xw_X12_law_16, xw_X12_law_44, xw_X12_law_73, zw_lit, xB_c, xB_s, xB_n, i1_c, j2_c, k1_c, jJ_e, xlg, xls, xla, xpd, ppush, zw_m1, zw_m2, zw_m3, gf_12_0, gf_12_9, gf_12_10, gf_12_11, pf_12_4, tg_12_0, tg_12_10, tg_12_11, tg_12_4, tg_12_9, gv_590_0, gv_590_9, gv_590_10, gv_590_11, xD1, xD2, xD3, xD4, xD5, xD6, xb1_0] at g
    have kp1 : KPr R n (pup H1 590 4 0) := KPr_cell hK (by rw [xp_ne (by decide)]; exact e592)
    obtain ⟨r, H2, ⟨rfl, d1, d2, d3⟩, g⟩ := xc_use g (sp_X12_deed R n (pup H1 590 4 0) hn (by rw [xp_at, if_neg (by decide)]; exact e2) kp1)
    have f590 : ∀ i, ¬ i = 2 → H2 590 i = if i = 4 then 0 else H1 590 i := fun i hi => by rw [d1.2 i hi, xp_at]
    have fc : ∀ c, ¬ c = 590 → ¬ c = 592 → H2 c = H1 c := fun c c1 c2 => by rw [d1.1 c c1 c2, xp_ne c1]
    have h11 : H2 590 11 = q.1 := by rw [f590 11 (by decide), if_neg (by decide)]; exact k2
    have h10 : H2 590 10 = q.2.length := by rw [f590 10 (by decide), if_neg (by decide)]; exact k1
    simp (maxDischargeDepth := 12) -implicitDefEqProofs [vb_X12_law_0, vb_X12_law_16, vb_X12_law_44, vb_X12_law_73, xI_0, xI_1, xI_3, xI_6, xI_7, xI_8, xI_14, xI_36, xI_38, xI_46, xI_49, xI_50, xI_51, xI_52, xI_61, xI_62, xw_X12_law_0, xw_X12_law_16, xw_X12_law_44, xw_X12_law_73, zw_lit, xB_c, xB_s, xB_n, i1_c, j2_c, k1_c, jJ_e, xlg, xls, xla, xpd, ppush, zw_m1, zw_m2, zw_m3, gf_12_0, gf_12_9, gf_12_10, gf_12_11, pf_12_4, tg_12_0, tg_12_10, tg_12_11, tg_12_4, tg_12_9, gv_590_0, gv_590_9, gv_590_10, gv_590_11, xD1, xD2, xD3, xD4, xD5, xD6, xb1_0, h11, h10, xp_ne] at g
    obtain ⟨m, hm, g⟩ := g
    obtain ⟨H', j1, j2, j3⟩ := lp_law44 q.2.length 0 _ (by omega) (pup (pup H2 591 10 q.1) 591 11 q.2.length) m 0 _ (Int.le_refl _) (by omega) (by rw [xp_ne (by decide), xp_ne (by decide)]; exact h10) (fun c _ => rfl) (fun j => by rw [if_neg (by omega)]) g
    have jc : ∀ c, ¬ c = 591 → H' c = H2 c := fun c hc => by rw [j1 c hc, xp_ne hc, xp_ne hc]
    have ej : pup (pup H2 591 10 q.1) 591 11 q.2.length 590 11 = q.1 := by rw [xp_ne (by decide), xp_ne (by decide)]; exact h11
    rw [ej] at j3
    refine ⟨_, H', j3, MO_trans (MO_l mf) ⟨fun c hc => by rw [jc c (by omega), fc c (by omega) (by omega)], ⟨by rw [jc 590 (by decide), f590 51 (by decide), if_neg (by decide)], by rw [jc 621 (by decide), fc 621 (by decide) (by decide)]⟩, by rw [jc 593 (by decide), fc 593 (by decide) (by decide)]⟩, by rw [jc 590 (by decide), f590 4 (by decide), if_pos rfl], Or.inl ⟨q, e, rfl, ?_, by rw [jc 590 (by decide)]; exact d2, ?_⟩⟩
    · funext j
      rw [j2 j]
      unfold lwB
      by_cases c : 12 ≤ j ∧ j < 12 + (q.2.length : Int)
      · obtain ⟨k, hk⟩ := Int.eq_ofNat_of_zero_le (show 0 ≤ j - 12 by omega)
        rw [if_pos c, if_neg (by omega), if_neg (by omega), if_pos c, xp_ne (by decide), xp_ne (by decide), fc 595 (by decide) (by decide), hk, k3 k (by omega)]
        rfl
      · rw [if_neg c, if_neg c, xp_at, xp_at, fc 591 (by decide) (by decide), e591]
        by_cases c1 : j = 11
        · rw [if_pos c1, if_neg (by omega), if_pos c1]
        · by_cases c2 : j = 10
          · rw [if_neg c1, if_pos c2, if_pos c2]
          · rw [if_neg c1, if_neg c2, if_neg c2, if_neg c1]
    · refine KPr_cell ?_ (jc 592 (by decide))
      have e591b : pup H1 590 4 0 591 = A := by rw [xp_ne (by decide)]; exact e591
      rw [e591b] at d3
      exact d3
  · simp (maxDischargeDepth := 12) -implicitDefEqProofs [vb_X12_law_0, vb_X12_law_16, vb_X12_law_44, vb_X12_law_73, xI_0, xI_1, xI_3, xI_6, xI_7, xI_8, xI_14, xI_36, xI_38, xI_46, xI_49, xI_50, xI_51, xI_52, xI_61, xI_62, xw_X12_law_0, xw_X12_law_16, xw_X12_law_44, xw_X12_law_73, zw_lit, xB_c, xB_s, xB_n, i1_c, j2_c, k1_c, jJ_e, xlg, xls, xla, xpd, ppush, zw_m1, zw_m2, zw_m3, gf_12_0, gf_12_9, gf_12_10, gf_12_11, pf_12_4, tg_12_0, tg_12_10, tg_12_11, tg_12_4, tg_12_9, gv_590_0, gv_590_9, gv_590_10, gv_590_11, xD1, xD2, xD3, xD4, xD5, xD6, xb1_0] at g
    exact ⟨_, _, g, MO_trans (MO_l mf) (MO_up (by decide)), by rw [xp_at, if_pos rfl], Or.inr ⟨e, rfl, by rw [xp_ne (by decide)]; exact e591, by rw [xp_at, if_neg (by decide)]; exact e2, KPr_cell hK (by rw [xp_ne (by decide)]; exact e592)⟩⟩
