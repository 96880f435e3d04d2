/-! a thing of the class's law -/
theorem lwTh_no {T : Int → Int} {z : Int} (m : Nat) (s : LwS) (h : ¬ (nxb T z s.1 = 40 ∨ isD (nxb T z s.1) ∨ nxb T z s.1 = 115 ∨ nxb T z s.1 = 111 ∨ nxb T z s.1 = 99)) : lwTh T z m s = none := by
  cases m with
  | zero => rfl
  | succ m =>
    unfold lwTh
    split
    · rfl
    · rw [if_neg (fun q => h (Or.inl q)), if_neg (fun q => h (Or.inr (Or.inl q))), if_neg (fun q => h (Or.inr (Or.inr (Or.inl q)))), if_neg (fun q => h (Or.inr (Or.inr (Or.inr (Or.inl q))))), if_neg (fun q => h (Or.inr (Or.inr (Or.inr (Or.inr q)))))]
theorem LKc_th {w : Int} {H : PH} {s : LwS} (hw : KW w) (h : LKc w H s) : LKc w (pup H w 3 (s.2.1 + 1)) (s.1, s.2.1 + 1, s.2.2) := by
  obtain ⟨h2, h3, h4⟩ := h
  refine ⟨?_, ?_, fun k hk => ?_⟩
  · rw [xp_at, if_neg (by decide)]
    exact h2
  · rw [xp_at, if_pos rfl]
  · rw [xp_ne (by omega)]
    exact h4 k hk
theorem LFw_th {w v : Int} {H : PH} (hw : KW w) : LFw w H (pup H w 3 v) := ⟨fun c c1 c2 c3 => xp_ne c1, fun i i2 i3 => by rw [xp_at, if_neg i3], fun i _ _ => congrFun (xp_ne (fun e => (KW_213 hw).1 e.symm)) i⟩
theorem TP_th {w sz a v : Int} {T : Int → Int} {H : PH} (hw : KW w) (hT : TP sz T a H) : TP sz T a (pup H w 3 v) := by
  obtain ⟨k1, k2, k3, k4⟩ := KW_213 hw
  unfold TP at hT ⊢
  rw [xp_ne (fun e => k1 e.symm), xp_ne (fun e => k3 e.symm)]
  exact hT
set_option maxRecDepth 100000 in
theorem sp_X4_takeThing (w sz : Int) (T : Int → Int) (hw : KW w) (hT0 : ∀ i, 0 ≤ i → i < sz → 0 ≤ T i ∧ T i ≤ 255) (d : Int) (m : Nat) (hd : d + m = 9) (d1 : 1 ≤ d) (hS : 0 < m → PCE 45 w sz T (d + 1) (sSm (lwTh T sz (m - 1)) T sz)) : PCE 47 w sz T d (lwTh T sz m) := by
  intro s H hT hg hK E n res h
  obtain ⟨g0, g1, g2, g3⟩ := KW_f hw
  have en := TP_nx hT
  have e2 := hT.2.2.1
  have s0 := hg.1
  have eb : nxb T sz s.1 = nxF sz T s.1 := nxb_nx s0
  have e3 := hK.2.1
  have tg := lwTh_g (T := T) (z := sz) m
  by_cases c : 30 ≤ s.2.1
  · have c' : ¬ s.2.1 < 30 := by omega
    have h := call_runP 4 vm_X4_takeThing h
    have h := xw_top (hd := []) 11 xD6_ok xc_X4_takeThing xa_X4_takeThing (t := 0) rfl h
    simp (maxDischargeDepth := 12) -implicitDefEqProofs [vb_X4_takeThing_0, vb_X4_takeThing_15, vb_X4_takeThing_24, vb_X4_takeThing_79, vb_X4_takeThing_80, vb_X4_takeThing_81, vb_X4_takeThing_99, vb_X4_takeThing_117, vb_X4_takeThing_135, xI_0, xI_1, xI_3, xI_7, xI_8, xI_14, xI_25, xI_33, xI_36, xI_37, xI_43, xI_44, xI_46, xI_48, xI_49, xI_50, xI_60, xI_61, xI_62, xw_X4_takeThing_0, xw_X4_takeThing_15, xw_X4_takeThing_24, xw_X4_takeThing_79, xw_X4_takeThing_80, xw_X4_takeThing_81, xw_X4_takeThing_99, xw_X4_takeThing_117, xw_X4_takeThing_135, zw_lit, xB_c, xB_s, xB_n, i1_c, j2_c, k1_c, jJ_e, xlg, xls, xla, xpd, ppush, zw_m1, zw_m2, zw_m3, gf_4_3, gf_10_2, pf_4_3, pf_10_2, tg_10_2, tg_4_3, gv_213_2, xD1, xD2, xD3, xD4, xD5, xD6, xb1_0, g0, g1, g2, g3, en, e2, e3, c, c'] at h
    obtain ⟨r, H1, ⟨rfl, rfl⟩, g⟩ := xc_use h (sp_X10_fail s.1 H)
    exact ⟨_, _, g, 0, s, rfl, LFw_PF hw (PF_up (Or.inr rfl)), Or.inr (Or.inl ⟨rfl, lwTh_30 m s c⟩)⟩
  · have c' : s.2.1 < 30 := by omega
    have ts := hg.2.2.1
    have z3 : zw (s.2.1 + 1) = s.2.1 + 1 := zw_lit (by omega) (by omega)
    cases m with
    | zero =>
      have d9 : ¬ d ≤ 8 := by omega
      have d8 : 8 < d := by omega
      have h := call_runP 4 vm_X4_takeThing h
      have h := xw_top (hd := []) 11 xD6_ok xc_X4_takeThing xa_X4_takeThing (t := 0) rfl h
      simp (maxDischargeDepth := 12) -implicitDefEqProofs [vb_X4_takeThing_0, vb_X4_takeThing_15, vb_X4_takeThing_24, vb_X4_takeThing_79, vb_X4_takeThing_80, vb_X4_takeThing_81, vb_X4_takeThing_99, vb_X4_takeThing_117, vb_X4_takeThing_135, xI_0, xI_1, xI_3, xI_7, xI_8, xI_14, xI_25, xI_33, xI_36, xI_37, xI_43, xI_44, xI_46, xI_48, xI_49, xI_50, xI_60, xI_61, xI_62, xw_X4_takeThing_0, xw_X4_takeThing_15, xw_X4_takeThing_24, xw_X4_takeThing_79, xw_X4_takeThing_80, xw_X4_takeThing_81, xw_X4_takeThing_99, xw_X4_takeThing_117, xw_X4_takeThing_135, zw_lit, xB_c, xB_s, xB_n, i1_c, j2_c, k1_c, jJ_e, xlg, xls, xla, xpd, ppush, zw_m1, zw_m2, zw_m3, gf_4_3, gf_10_2, pf_4_3, pf_10_2, tg_10_2, tg_4_3, gv_213_2, xD1, xD2, xD3, xD4, xD5, xD6, xb1_0, g0, g1, g2, g3, en, e2, e3, c, c', d9, d8] at h
      obtain ⟨r, H1, ⟨rfl, rfl⟩, g⟩ := xc_use h (sp_X10_fail s.1 H)
      exact ⟨_, _, g, 0, s, rfl, LFw_PF hw (PF_up (Or.inr rfl)), Or.inr (Or.inl ⟨rfl, rfl⟩)⟩
    | succ m =>
      have d9 : d ≤ 8 := by omega
      have d8 : ¬ 8 < d := by omega
      have k1 : ¬ (213 : Int) = w := fun e => (KW_213 hw).1 e.symm
      have nx3 : nxV (pup H w 3 (s.2.1 + 1)) = nxF sz T s.1 := TP_nx (TP_th hw hT)
      have eq := lwTh_eq (T := T) (z := sz) m s c'
      rw [eb] at eq
      by_cases q40 : nxF sz T s.1 = 40
      · have hz := nxb_lt (T := T) (z := sz) (a := s.1) (by omega)
        have sz6 := hT.2.2.2.2.2
        have z1 : zw (s.1 + 1) = s.1 + 1 := zw_lit (by omega) (by omega)
        have zd : zw (d + 1) = d + 1 := zw_lit (by omega) (by omega)
        have h := call_runP 4 vm_X4_takeThing h
        have h := xw_top (hd := []) 11 xD6_ok xc_X4_takeThing xa_X4_takeThing (t := 0) rfl h
        simp (maxDischargeDepth := 12) -implicitDefEqProofs [vb_X4_takeThing_0, vb_X4_takeThing_15, vb_X4_takeThing_24, vb_X4_takeThing_79, vb_X4_takeThing_80, vb_X4_takeThing_81, vb_X4_takeThing_99, vb_X4_takeThing_117, vb_X4_takeThing_135, xI_0, xI_1, xI_3, xI_7, xI_8, xI_14, xI_25, xI_33, xI_36, xI_37, xI_43, xI_44, xI_46, xI_48, xI_49, xI_50, xI_60, xI_61, xI_62, xw_X4_takeThing_0, xw_X4_takeThing_15, xw_X4_takeThing_24, xw_X4_takeThing_79, xw_X4_takeThing_80, xw_X4_takeThing_81, xw_X4_takeThing_99, xw_X4_takeThing_117, xw_X4_takeThing_135, zw_lit, xB_c, xB_s, xB_n, i1_c, j2_c, k1_c, jJ_e, xlg, xls, xla, xpd, ppush, zw_m1, zw_m2, zw_m3, gf_4_3, gf_10_2, pf_4_3, pf_10_2, tg_10_2, tg_4_3, gv_213_2, xD1, xD2, xD3, xD4, xD5, xD6, xb1_0, g0, g1, g2, g3, en, e2, e3, c, c', d9, d8, z3, nx3, q40, xp_ne, k1, z1, zd] at h
        have lg : LGd sz (s.1 + 1, s.2.1 + 1, s.2.2) := ⟨by show 0 ≤ s.1 + 1; omega, by show s.1 + 1 ≤ sz; omega, by show 0 ≤ s.2.1 + 1; have := hg.2.2.1; omega, by show s.2.1 + 1 ≤ 30; omega, by show (s.2.2.length : Int) ≤ 2 * (s.2.1 + 1); have := hg.2.2.2.2; omega⟩
        have lk : LKc w (pup (pup H w 3 (s.2.1 + 1)) 213 2 (s.1 + 1)) (s.1 + 1, s.2.1 + 1, s.2.2) := LKc_PF hw (PF_up (Or.inl rfl)) rfl (LKc_th hw hK)
        obtain ⟨r, H1, ⟨u, s2, rfl, l1, r1⟩, g⟩ := xc_use h (hS (by omega) (s.1 + 1, s.2.1 + 1, s.2.2) _ (TP_up (TP_th hw hT) hz) lg lk)
        have l0 := LFw_trans (LFw_th (v := s.2.1 + 1) hw) (LFw_trans (LFw_PF hw (PF_up (Or.inl rfl))) l1)
        have e1 := eq.1 q40
        rw [show m + 1 - 1 = m by omega] at r1
        rcases r1 with ⟨rfl, f1, t1, t2, t3⟩ | ⟨rfl, f1⟩ | ⟨rfl, f1, t1, t2⟩
        · simp (maxDischargeDepth := 12) -implicitDefEqProofs [vb_X4_takeThing_0, vb_X4_takeThing_15, vb_X4_takeThing_24, vb_X4_takeThing_79, vb_X4_takeThing_80, vb_X4_takeThing_81, vb_X4_takeThing_99, vb_X4_takeThing_117, vb_X4_takeThing_135, xI_0, xI_1, xI_3, xI_7, xI_8, xI_14, xI_25, xI_33, xI_36, xI_37, xI_43, xI_44, xI_46, xI_48, xI_49, xI_50, xI_60, xI_61, xI_62, xw_X4_takeThing_0, xw_X4_takeThing_15, xw_X4_takeThing_24, xw_X4_takeThing_79, xw_X4_takeThing_80, xw_X4_takeThing_81, xw_X4_takeThing_99, xw_X4_takeThing_117, xw_X4_takeThing_135, zw_lit, xB_c, xB_s, xB_n, i1_c, j2_c, k1_c, jJ_e, xlg, xls, xla, xpd, ppush, zw_m1, zw_m2, zw_m3, gf_4_3, gf_10_2, pf_4_3, pf_10_2, tg_10_2, tg_4_3, gv_213_2, xD1, xD2, xD3, xD4, xD5, xD6, xb1_0] at g
          obtain ⟨r, H2, ⟨p, g5⟩, g⟩ := xc_use g (sp_X10_skip 41 sz s2.1 T H1 t2 (by decide))
          have eb2 : nxb T sz s2.1 = nxF sz T s2.1 := nxb_nx t1.1
          rcases g5 with ⟨k, rfl, t⟩ | ⟨k, rfl⟩
          · simp (maxDischargeDepth := 12) -implicitDefEqProofs [vb_X4_takeThing_0, vb_X4_takeThing_15, vb_X4_takeThing_24, vb_X4_takeThing_79, vb_X4_takeThing_80, vb_X4_takeThing_81, vb_X4_takeThing_99, vb_X4_takeThing_117, vb_X4_takeThing_135, xI_0, xI_1, xI_3, xI_7, xI_8, xI_14, xI_25, xI_33, xI_36, xI_37, xI_43, xI_44, xI_46, xI_48, xI_49, xI_50, xI_60, xI_61, xI_62, xw_X4_takeThing_0, xw_X4_takeThing_15, xw_X4_takeThing_24, xw_X4_takeThing_79, xw_X4_takeThing_80, xw_X4_takeThing_81, xw_X4_takeThing_99, xw_X4_takeThing_117, xw_X4_takeThing_135, zw_lit, xB_c, xB_s, xB_n, i1_c, j2_c, k1_c, jJ_e, xlg, xls, xla, xpd, ppush, zw_m1, zw_m2, zw_m3, gf_4_3, gf_10_2, pf_4_3, pf_10_2, tg_10_2, tg_4_3, gv_213_2, xD1, xD2, xD3, xD4, xD5, xD6, xb1_0] at g
            refine ⟨_, _, g, 1, (s2.1 + 1, s2.2), rfl, LFw_trans l0 (LFw_PF hw p), Or.inl ⟨rfl, ?_, ?_, t, LKc_PF hw p rfl t3⟩⟩
            · rw [e1, f1]
              show (if nxb T sz s2.1 = 41 then _ else _) = _
              rw [eb2, if_pos k]
            · have hz2 := nxb_lt (T := T) (z := sz) (a := s2.1) (by omega)
              exact ⟨by show 0 ≤ s2.1 + 1; have := t1.1; omega, by show s2.1 + 1 ≤ sz; omega, t1.2.2⟩
          · simp (maxDischargeDepth := 12) -implicitDefEqProofs [vb_X4_takeThing_0, vb_X4_takeThing_15, vb_X4_takeThing_24, vb_X4_takeThing_79, vb_X4_takeThing_80, vb_X4_takeThing_81, vb_X4_takeThing_99, vb_X4_takeThing_117, vb_X4_takeThing_135, xI_0, xI_1, xI_3, xI_7, xI_8, xI_14, xI_25, xI_33, xI_36, xI_37, xI_43, xI_44, xI_46, xI_48, xI_49, xI_50, xI_60, xI_61, xI_62, xw_X4_takeThing_0, xw_X4_takeThing_15, xw_X4_takeThing_24, xw_X4_takeThing_79, xw_X4_takeThing_80, xw_X4_takeThing_81, xw_X4_takeThing_99, xw_X4_takeThing_117, xw_X4_takeThing_135, zw_lit, xB_c, xB_s, xB_n, i1_c, j2_c, k1_c, jJ_e, xlg, xls, xla, xpd, ppush, zw_m1, zw_m2, zw_m3, gf_4_3, gf_10_2, pf_4_3, pf_10_2, tg_10_2, tg_4_3, gv_213_2, xD1, xD2, xD3, xD4, xD5, xD6, xb1_0] at g
            refine ⟨_, _, g, 0, s, rfl, LFw_trans l0 (LFw_PF hw p), Or.inr (Or.inl ⟨rfl, ?_⟩)⟩
            rw [e1, f1]
            show (if nxb T sz s2.1 = 41 then _ else _) = _
            rw [eb2, if_neg k]
        · simp (maxDischargeDepth := 12) -implicitDefEqProofs [vb_X4_takeThing_0, vb_X4_takeThing_15, vb_X4_takeThing_24, vb_X4_takeThing_79, vb_X4_takeThing_80, vb_X4_takeThing_81, vb_X4_takeThing_99, vb_X4_takeThing_117, vb_X4_takeThing_135, xI_0, xI_1, xI_3, xI_7, xI_8, xI_14, xI_25, xI_33, xI_36, xI_37, xI_43, xI_44, xI_46, xI_48, xI_49, xI_50, xI_60, xI_61, xI_62, xw_X4_takeThing_0, xw_X4_takeThing_15, xw_X4_takeThing_24, xw_X4_takeThing_79, xw_X4_takeThing_80, xw_X4_takeThing_81, xw_X4_takeThing_99, xw_X4_takeThing_117, xw_X4_takeThing_135, zw_lit, xB_c, xB_s, xB_n, i1_c, j2_c, k1_c, jJ_e, xlg, xls, xla, xpd, ppush, zw_m1, zw_m2, zw_m3, gf_4_3, gf_10_2, pf_4_3, pf_10_2, tg_10_2, tg_4_3, gv_213_2, xD1, xD2, xD3, xD4, xD5, xD6, xb1_0] at g
          exact ⟨_, _, g, 0, s, rfl, l0, Or.inr (Or.inl ⟨rfl, by rw [e1, f1]⟩)⟩
        · simp (maxDischargeDepth := 12) -implicitDefEqProofs [vb_X4_takeThing_0, vb_X4_takeThing_15, vb_X4_takeThing_24, vb_X4_takeThing_79, vb_X4_takeThing_80, vb_X4_takeThing_81, vb_X4_takeThing_99, vb_X4_takeThing_117, vb_X4_takeThing_135, xI_0, xI_1, xI_3, xI_7, xI_8, xI_14, xI_25, xI_33, xI_36, xI_37, xI_43, xI_44, xI_46, xI_48, xI_49, xI_50, xI_60, xI_61, xI_62, xw_X4_takeThing_0, xw_X4_takeThing_15, xw_X4_takeThing_24, xw_X4_takeThing_79, xw_X4_takeThing_80, xw_X4_takeThing_81, xw_X4_takeThing_99, xw_X4_takeThing_117, xw_X4_takeThing_135, zw_lit, xB_c, xB_s, xB_n, i1_c, j2_c, k1_c, jJ_e, xlg, xls, xla, xpd, ppush, zw_m1, zw_m2, zw_m3, gf_4_3, gf_10_2, pf_4_3, pf_10_2, tg_10_2, tg_4_3, gv_213_2, xD1, xD2, xD3, xD4, xD5, xD6, xb1_0] at g
          obtain ⟨r, H2, ⟨p, g5⟩, g⟩ := xc_use g (sp_X10_skip 41 sz s2.1 T H1 t2 (by decide))
          unfold isD at t1
          rcases g5 with ⟨k, rfl, t⟩ | ⟨k, rfl⟩
          · omega
          · simp (maxDischargeDepth := 12) -implicitDefEqProofs [vb_X4_takeThing_0, vb_X4_takeThing_15, vb_X4_takeThing_24, vb_X4_takeThing_79, vb_X4_takeThing_80, vb_X4_takeThing_81, vb_X4_takeThing_99, vb_X4_takeThing_117, vb_X4_takeThing_135, xI_0, xI_1, xI_3, xI_7, xI_8, xI_14, xI_25, xI_33, xI_36, xI_37, xI_43, xI_44, xI_46, xI_48, xI_49, xI_50, xI_60, xI_61, xI_62, xw_X4_takeThing_0, xw_X4_takeThing_15, xw_X4_takeThing_24, xw_X4_takeThing_79, xw_X4_takeThing_80, xw_X4_takeThing_81, xw_X4_takeThing_99, xw_X4_takeThing_117, xw_X4_takeThing_135, zw_lit, xB_c, xB_s, xB_n, i1_c, j2_c, k1_c, jJ_e, xlg, xls, xla, xpd, ppush, zw_m1, zw_m2, zw_m3, gf_4_3, gf_10_2, pf_4_3, pf_10_2, tg_10_2, tg_4_3, gv_213_2, xD1, xD2, xD3, xD4, xD5, xD6, xb1_0] at g
            exact ⟨_, _, g, 0, s, rfl, LFw_trans l0 (LFw_PF hw p), Or.inr (Or.inl ⟨rfl, by rw [e1, f1]⟩)⟩
      · by_cases qd : isD (nxF sz T s.1)
        · have qd' := qd
          unfold isD at qd'
          have qa := qd'.1
          have qb := qd'.2
          have qc : ¬ nxF sz T s.1 < 48 := by omega
          have qe : ¬ 57 < nxF sz T s.1 := by omega
          have h := call_runP 4 vm_X4_takeThing h
          have h := xw_top (hd := []) 11 xD6_ok xc_X4_takeThing xa_X4_takeThing (t := 0) rfl h
          simp (maxDischargeDepth := 12) -implicitDefEqProofs [vb_X4_takeThing_0, vb_X4_takeThing_15, vb_X4_takeThing_24, vb_X4_takeThing_79, vb_X4_takeThing_80, vb_X4_takeThing_81, vb_X4_takeThing_99, vb_X4_takeThing_117, vb_X4_takeThing_135, xI_0, xI_1, xI_3, xI_7, xI_8, xI_14, xI_25, xI_33, xI_36, xI_37, xI_43, xI_44, xI_46, xI_48, xI_49, xI_50, xI_60, xI_61, xI_62, xw_X4_takeThing_0, xw_X4_takeThing_15, xw_X4_takeThing_24, xw_X4_takeThing_79, xw_X4_takeThing_80, xw_X4_takeThing_81, xw_X4_takeThing_99, xw_X4_takeThing_117, xw_X4_takeThing_135, zw_lit, xB_c, xB_s, xB_n, i1_c, j2_c, k1_c, jJ_e, xlg, xls, xla, xpd, ppush, zw_m1, zw_m2, zw_m3, gf_4_3, gf_10_2, pf_4_3, pf_10_2, tg_10_2, tg_4_3, gv_213_2, xD1, xD2, xD3, xD4, xD5, xD6, xb1_0, g0, g1, g2, g3, en, e2, e3, c, c', d9, d8, z3, nx3, q40, qa, qb, qc, qe, xp_ne, k1] at h
          obtain ⟨r, H1, ⟨rfl, p, t⟩, g⟩ := xc_use h (sp_X10_digits 4 4 sz s.1 T _ rfl (by omega) (TP_th hw hT) hT0)
          obtain ⟨r, H2, ⟨rfl, ad⟩, g⟩ := xc_use g (sp_X4_add w _ H1 hw)
          have e1 := eq.2.1 qd
          have dg := dgt_dg (w := T) (sz := sz) 4 s.1 0 s0
          have rg := dgF_rg (sz := sz) (w := T) 4 s.1 0 (by unfold dB; omega)
          have ge := dgF_ge sz T 4 s.1 0
          rw [dg] at e1
          have e1 : lwTh T sz (m + 1) s = if isD (nxb T sz (dgF sz T 4 s.1 0).2) then none else some ((dgF sz T 4 s.1 0).2, s.2.1 + 1, s.2.2 ++ [(dgF sz T 4 s.1 0).1]) := e1
          rw [nxb_nx (by omega)] at e1
          have l0 := LFw_trans (LFw_th (v := s.2.1 + 1) hw) (LFw_trans (LFw_PF hw p) (LFw_add hw ad))
          by_cases qe : isD (nxF sz T (dgF sz T 4 s.1 0).2)
          · rw [if_pos qe] at e1
            exact ⟨_, _, g, 1, ((dgF sz T 4 s.1 0).2, s.2), rfl, l0, Or.inr (Or.inr ⟨rfl, e1, qe, TP_LFa hw ad t⟩)⟩
          · rw [if_neg qe] at e1
            have lg := (tg s _ hg e1).1
            refine ⟨_, _, g, 1, _, rfl, l0, Or.inl ⟨rfl, e1, lg, TP_LFa hw ad t, ?_⟩⟩
            have lk : LKc w H1 ((dgF sz T 4 s.1 0).2, s.2.1 + 1, s.2.2) := LKc_PF (s := (s.1, s.2.1 + 1, s.2.2)) hw p rfl (LKc_th hw hK)
            have ll := hg.2.2.2.2
            rcases ad with ⟨a1, a2⟩ | ⟨a1, a2⟩
            · rw [a2]
              exact LKc_add (u := (dgF sz T 4 s.1 0).1) hw lk (by show (s.2.2.length : Int) < 60; omega) (Or.inl ⟨rg.1, by omega⟩) (if_pos rg.1)
            · have := lk.1
              have : H1 w 2 = (s.2.2.length : Int) := this
              omega
        · have qd' := qd
          unfold isD at qd'
          by_cases qn : nxF sz T s.1 = 115 ∨ nxF sz T s.1 = 111 ∨ nxF sz T s.1 = 99
          · have hz := nxb_lt (T := T) (z := sz) (a := s.1) (by omega)
            have sz6 := hT.2.2.2.2.2
            have z1 : zw (s.1 + 1) = s.1 + 1 := zw_lit (by omega) (by omega)
            have ng := q1_neg (c := nxF sz T s.1) (by omega)
            have fin : ∀ v, lwTh T sz (m + 1) s = some (s.1 + 1, s.2.1 + 1, s.2.2 ++ [v]) → VC (-nxF sz T s.1) → enC (-nxF sz T s.1) = v → xC E n 50 [(2, w), (0, -nxF sz T s.1)] (pup (pup H w 3 (s.2.1 + 1)) 213 2 (s.1 + 1)) (fun r H2 => REPR E res (some (0, 1)) H2) → ∃ r H', REPR E res r H' ∧ ∃ (v : Int) (s' : LwS), r = some (0, v) ∧ LFw w H H' ∧ RES w sz T (lwTh T sz (m + 1) s) v s' H' := by
              intro v e1 v1 v2 g
              obtain ⟨r, H2, ⟨rfl, ad⟩, g⟩ := xc_use g (sp_X4_add w _ _ hw)
              have lg := (tg s _ hg e1).1
              have l0 := LFw_trans (LFw_th (v := s.2.1 + 1) hw) (LFw_trans (LFw_PF hw (PF_up (Or.inl rfl))) (LFw_add hw ad))
              have lk : LKc w (pup (pup H w 3 (s.2.1 + 1)) 213 2 (s.1 + 1)) (s.1 + 1, s.2.1 + 1, s.2.2) := LKc_PF hw (PF_up (Or.inl rfl)) rfl (LKc_th hw hK)
              have ll := hg.2.2.2.2
              refine ⟨_, _, g, 1, _, rfl, l0, Or.inl ⟨rfl, e1, lg, TP_LFa hw ad (TP_up (TP_th hw hT) hz), ?_⟩⟩
              rcases ad with ⟨a1, a2⟩ | ⟨a1, a2⟩
              · rw [a2]
                exact LKc_add hw lk (by show (s.2.2.length : Int) < 60; omega) v1 v2
              · have := lk.1
                have : pup (pup H w 3 (s.2.1 + 1)) 213 2 (s.1 + 1) w 2 = (s.2.2.length : Int) := this
                omega
            by_cases n1 : nxF sz T s.1 = 115
            · have h := call_runP 4 vm_X4_takeThing h
              have h := xw_top (hd := []) 11 xD6_ok xc_X4_takeThing xa_X4_takeThing (t := 0) rfl h
              simp (maxDischargeDepth := 12) -implicitDefEqProofs [vb_X4_takeThing_0, vb_X4_takeThing_15, vb_X4_takeThing_24, vb_X4_takeThing_79, vb_X4_takeThing_80, vb_X4_takeThing_81, vb_X4_takeThing_99, vb_X4_takeThing_117, vb_X4_takeThing_135, xI_0, xI_1, xI_3, xI_7, xI_8, xI_14, xI_25, xI_33, xI_36, xI_37, xI_43, xI_44, xI_46, xI_48, xI_49, xI_50, xI_60, xI_61, xI_62, xw_X4_takeThing_0, xw_X4_takeThing_15, xw_X4_takeThing_24, xw_X4_takeThing_79, xw_X4_takeThing_80, xw_X4_takeThing_81, xw_X4_takeThing_99, xw_X4_takeThing_117, xw_X4_takeThing_135, zw_lit, xB_c, xB_s, xB_n, i1_c, j2_c, k1_c, jJ_e, xlg, xls, xla, xpd, ppush, zw_m1, zw_m2, zw_m3, gf_4_3, gf_10_2, pf_4_3, pf_10_2, tg_10_2, tg_4_3, gv_213_2, xD1, xD2, xD3, xD4, xD5, xD6, xb1_0, g0, g1, g2, g3, en, e2, e3, c, c', d9, d8, z3, nx3, n1, xp_ne, k1, z1] at h
              rw [n1] at fin ng
              exact fin 10000 (eq.2.2.1 n1) (by unfold VC; omega) (by decide +kernel) (by simpa [ng] using h)
            · by_cases n2 : nxF sz T s.1 = 111
              · have h := call_runP 4 vm_X4_takeThing h
                have h := xw_top (hd := []) 11 xD6_ok xc_X4_takeThing xa_X4_takeThing (t := 0) rfl h
                simp (maxDischargeDepth := 12) -implicitDefEqProofs [vb_X4_takeThing_0, vb_X4_takeThing_15, vb_X4_takeThing_24, vb_X4_takeThing_79, vb_X4_takeThing_80, vb_X4_takeThing_81, vb_X4_takeThing_99, vb_X4_takeThing_117, vb_X4_takeThing_135, xI_0, xI_1, xI_3, xI_7, xI_8, xI_14, xI_25, xI_33, xI_36, xI_37, xI_43, xI_44, xI_46, xI_48, xI_49, xI_50, xI_60, xI_61, xI_62, xw_X4_takeThing_0, xw_X4_takeThing_15, xw_X4_takeThing_24, xw_X4_takeThing_79, xw_X4_takeThing_80, xw_X4_takeThing_81, xw_X4_takeThing_99, xw_X4_takeThing_117, xw_X4_takeThing_135, zw_lit, xB_c, xB_s, xB_n, i1_c, j2_c, k1_c, jJ_e, xlg, xls, xla, xpd, ppush, zw_m1, zw_m2, zw_m3, gf_4_3, gf_10_2, pf_4_3, pf_10_2, tg_10_2, tg_4_3, gv_213_2, xD1, xD2, xD3, xD4, xD5, xD6, xb1_0, g0, g1, g2, g3, en, e2, e3, c, c', d9, d8, z3, nx3, n2, xp_ne, k1, z1] at h
                rw [n2] at fin ng
                exact fin 10001 (eq.2.2.2.1 n2) (by unfold VC; omega) (by decide +kernel) (by simpa [ng] using h)
              · have n3 : nxF sz T s.1 = 99 := by omega
                have h := call_runP 4 vm_X4_takeThing h
                have h := xw_top (hd := []) 11 xD6_ok xc_X4_takeThing xa_X4_takeThing (t := 0) rfl h
                simp (maxDischargeDepth := 12) -implicitDefEqProofs [vb_X4_takeThing_0, vb_X4_takeThing_15, vb_X4_takeThing_24, vb_X4_takeThing_79, vb_X4_takeThing_80, vb_X4_takeThing_81, vb_X4_takeThing_99, vb_X4_takeThing_117, vb_X4_takeThing_135, xI_0, xI_1, xI_3, xI_7, xI_8, xI_14, xI_25, xI_33, xI_36, xI_37, xI_43, xI_44, xI_46, xI_48, xI_49, xI_50, xI_60, xI_61, xI_62, xw_X4_takeThing_0, xw_X4_takeThing_15, xw_X4_takeThing_24, xw_X4_takeThing_79, xw_X4_takeThing_80, xw_X4_takeThing_81, xw_X4_takeThing_99, xw_X4_takeThing_117, xw_X4_takeThing_135, zw_lit, xB_c, xB_s, xB_n, i1_c, j2_c, k1_c, jJ_e, xlg, xls, xla, xpd, ppush, zw_m1, zw_m2, zw_m3, gf_4_3, gf_10_2, pf_4_3, pf_10_2, tg_10_2, tg_4_3, gv_213_2, xD1, xD2, xD3, xD4, xD5, xD6, xb1_0, g0, g1, g2, g3, en, e2, e3, c, c', d9, d8, z3, nx3, n3, xp_ne, k1, z1] at h
                rw [n3] at fin ng
                exact fin 10002 (eq.2.2.2.2.1 n3) (by unfold VC; omega) (by decide +kernel) (by simpa [ng] using h)
          · have n1 : ¬ nxF sz T s.1 = 115 := fun q => qn (Or.inl q)
            have n2 : ¬ nxF sz T s.1 = 111 := fun q => qn (Or.inr (Or.inl q))
            have n3 : ¬ nxF sz T s.1 = 99 := fun q => qn (Or.inr (Or.inr q))
            have no : lwTh T sz (m + 1) s = none := lwTh_no _ s (by rw [eb]; intro q; rcases q with q | q | q | q | q; exact q40 q; exact qd q; exact n1 q; exact n2 q; exact n3 q)
            by_cases qa : 48 ≤ nxF sz T s.1
            · have qb : ¬ nxF sz T s.1 ≤ 57 := by omega
              have qc : ¬ nxF sz T s.1 < 48 := by omega
              have qe : 57 < nxF sz T s.1 := by omega
              have h := call_runP 4 vm_X4_takeThing h
              have h := xw_top (hd := []) 11 xD6_ok xc_X4_takeThing xa_X4_takeThing (t := 0) rfl h
              simp (maxDischargeDepth := 12) -implicitDefEqProofs [vb_X4_takeThing_0, vb_X4_takeThing_15, vb_X4_takeThing_24, vb_X4_takeThing_79, vb_X4_takeThing_80, vb_X4_takeThing_81, vb_X4_takeThing_99, vb_X4_takeThing_117, vb_X4_takeThing_135, xI_0, xI_1, xI_3, xI_7, xI_8, xI_14, xI_25, xI_33, xI_36, xI_37, xI_43, xI_44, xI_46, xI_48, xI_49, xI_50, xI_60, xI_61, xI_62, xw_X4_takeThing_0, xw_X4_takeThing_15, xw_X4_takeThing_24, xw_X4_takeThing_79, xw_X4_takeThing_80, xw_X4_takeThing_81, xw_X4_takeThing_99, xw_X4_takeThing_117, xw_X4_takeThing_135, zw_lit, xB_c, xB_s, xB_n, i1_c, j2_c, k1_c, jJ_e, xlg, xls, xla, xpd, ppush, zw_m1, zw_m2, zw_m3, gf_4_3, gf_10_2, pf_4_3, pf_10_2, tg_10_2, tg_4_3, gv_213_2, xD1, xD2, xD3, xD4, xD5, xD6, xb1_0, g0, g1, g2, g3, en, e2, e3, c, c', d9, d8, z3, nx3, q40, n1, n2, n3, xp_ne, k1, qa, qb, qc, qe] at h
              obtain ⟨r, H1, ⟨rfl, rfl⟩, g⟩ := xc_use h (sp_X10_fail s.1 _)
              exact ⟨_, _, g, 0, s, rfl, LFw_trans (LFw_th hw) (LFw_PF hw (PF_up (Or.inr rfl))), Or.inr (Or.inl ⟨rfl, no⟩)⟩
            · have qc : nxF sz T s.1 < 48 := by omega
              have h := call_runP 4 vm_X4_takeThing h
              have h := xw_top (hd := []) 11 xD6_ok xc_X4_takeThing xa_X4_takeThing (t := 0) rfl h
              simp (maxDischargeDepth := 12) -implicitDefEqProofs [vb_X4_takeThing_0, vb_X4_takeThing_15, vb_X4_takeThing_24, vb_X4_takeThing_79, vb_X4_takeThing_80, vb_X4_takeThing_81, vb_X4_takeThing_99, vb_X4_takeThing_117, vb_X4_takeThing_135, xI_0, xI_1, xI_3, xI_7, xI_8, xI_14, xI_25, xI_33, xI_36, xI_37, xI_43, xI_44, xI_46, xI_48, xI_49, xI_50, xI_60, xI_61, xI_62, xw_X4_takeThing_0, xw_X4_takeThing_15, xw_X4_takeThing_24, xw_X4_takeThing_79, xw_X4_takeThing_80, xw_X4_takeThing_81, xw_X4_takeThing_99, xw_X4_takeThing_117, xw_X4_takeThing_135, zw_lit, xB_c, xB_s, xB_n, i1_c, j2_c, k1_c, jJ_e, xlg, xls, xla, xpd, ppush, zw_m1, zw_m2, zw_m3, gf_4_3, gf_10_2, pf_4_3, pf_10_2, tg_10_2, tg_4_3, gv_213_2, xD1, xD2, xD3, xD4, xD5, xD6, xb1_0, g0, g1, g2, g3, en, e2, e3, c, c', d9, d8, z3, nx3, q40, n1, n2, n3, xp_ne, k1, qa, qc] at h
              obtain ⟨r, H1, ⟨rfl, rfl⟩, g⟩ := xc_use h (sp_X10_fail s.1 _)
              exact ⟨_, _, g, 0, s, rfl, LFw_trans (LFw_th hw) (LFw_PF hw (PF_up (Or.inr rfl))), Or.inr (Or.inl ⟨rfl, no⟩)⟩
