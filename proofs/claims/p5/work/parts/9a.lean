theorem gf_0_4 : gfOK 0 4 = true := by decide +kernel
def xm_X11_balesInShed : List xbT := [(0, vb_X11_balesInShed_0, none)]
theorem xc_X11_balesInShed : xOK kd_X11_balesInShed xm_X11_balesInShed := ⟨ve_X11_balesInShed_0, trivial⟩
theorem xa_X11_balesInShed : xm_X11_balesInShed.all (fun q => aOKb q.2.1 && !q.2.1.isEmpty) = true := by decide +kernel
theorem xw_X11_balesInShed_0 {E : xE} {res : xR} {N : Nat} {hd : List Nat} {C : xCT} {k : Nat} {L : List Int} {st : List pv} {H : PH} : xW E res N kd_X11_balesInShed xm_X11_balesInShed hd C (k + 1) 0 L st H = xB (fun t L st H => if t ∈ hd then xJ E res N kd_X11_balesInShed t L st H else xW E res N kd_X11_balesInShed xm_X11_balesInShed hd C k t L st H) (REPR E res) C (none) vb_X11_balesInShed_0 0 L st H := Eq.trans rfl rfl
/-! all that is measured, asked for -/
/-- what measuring leaves as it is -/
def AF (H H' : PH) : Prop := (∀ c, ¬ c = 44 → ¬ c = 45 → ¬ c = 50 → ¬ c = 53 → ¬ KL c → ¬ KL (c - 1) → ¬ KW (c - 2) → ¬ (215 ≤ c ∧ c ≤ 371) → H' c = H c) ∧ (∀ q, KL q → ∀ i, ¬ i = 4 → H' q i = H q i) ∧ LX H H'
theorem AF_refl {H : PH} : AF H H := ⟨fun _ _ _ _ _ _ _ _ _ => rfl, fun _ _ _ _ => rfl, LX_refl⟩
theorem AF_trans {H H1 H2 : PH} (a : AF H H1) (b : AF H1 H2) : AF H H2 := ⟨fun c h1 h2 h3 h4 h5 h6 h7 h8 => (b.1 c h1 h2 h3 h4 h5 h6 h7 h8).trans (a.1 c h1 h2 h3 h4 h5 h6 h7 h8), fun q hq i hi => (b.2.1 q hq i hi).trans (a.2.1 q hq i hi), LX_trans a.2.2 b.2.2⟩
theorem AF_KF {H H' : PH} (g : KF H H') : AF H H' := ⟨fun c h1 h2 _ _ h5 h6 _ h8 => g.1 c h1 h2 h5 h6 (by omega), g.2.2⟩
theorem AF_TF {H H' : PH} (g : TF H H') : AF H H' := ⟨fun c h1 h2 h3 h4 h5 h6 h7 h8 => g.1 c h1 h2 h3 h4 h5 h6 h7 (by omega), g.2.2⟩
theorem AF_up {H : PH} {c i v : Int} (hc : 215 ≤ c ∧ c ≤ 371) : AF H (pup H c i v) := ⟨fun d _ _ _ _ _ _ _ h => xp_ne (by omega), fun q hq j _ => congrFun (xp_ne (by have := KZ (Or.inr hq); omega)) j, LX_up (by omega)⟩
theorem nKW {c : Int} (h0 : 213 ≤ c) (h1 : c ≤ 467) : ¬ KW (c - 2) := fun w => by
  have := KWz w
  omega
/-- the tallies and the matching, fresh or not -/
def MCC (A : Int → Int) (H : PH) : Prop := (¬ H 215 1 = 0 → TCf A H) ∧ (¬ H 221 2 = 0 → ¬ H 215 1 = 0 ∧ MCf A H)
theorem sp_X11_matchAll (A : Int → Int) (H : PH) (hB : MB A) (hL : ML A) (h3 : 0 ≤ A 3 ∧ A 3 ≤ 20) (hf : 0 ≤ A 4 ∧ A 4 ≤ 24) (ci : CI H A) (hM : MCC A H) : SPEC 151 [(2, 0)] H (fun r H' => r = none ∧ CI H' A ∧ TCf A H' ∧ MCf A H' ∧ H' 215 1 ≠ 0 ∧ H' 221 2 ≠ 0 ∧ AF H H') := by
  intro E n res h
  have h := call_runP 1 vm_X11_matchAll h
  have h := xw_top (hd := []) 3 xD6_ok xc_X11_matchAll xa_X11_matchAll (t := 0) rfl h
  simp (maxDischargeDepth := 12) -implicitDefEqProofs [vb_X11_matchAll_0, xI_0, xI_49, xI_61, xI_65, xw_X11_matchAll_0, zw_lit, xB_c, xB_s, xB_n, i1_c, j2_c, k1_c, jJ_e, xlg, xls, xla, xpd, ppush, zw_m1, zw_m2, zw_m3, gf_11_2, gf_11_3, tg_11_2, tg_11_3, gv_0_2, gv_0_3, xD1, xD2, xD3, xD4, xD5, xD6, xb1_0] at h
  obtain ⟨r, H1, ⟨rfl, c1, t1, e1, f1⟩, h⟩ := xc_use h (sp_X9_refresh A H hB hL h3 ci hM.1)
  have af1 : AF H H1 ∧ ¬ H1 215 1 = 0 ∧ (¬ H1 221 2 = 0 → MCf A H1) := by
    by_cases q : H 215 1 = 0
    · have f := f1 q
      have e221 : H1 221 = H 221 := by
        rw [f.1 221 (by decide) (by decide) (by decide) (by decide) (nKL (by decide) (by decide)).1 (nKL (by decide) (by decide)).2 (nKW (by decide) (by decide)) (by decide), xp_ne (by decide)]
      refine ⟨AF_trans (AF_up (by decide)) (AF_TF f), ?_, fun w => ?_⟩
      · rw [f.2.1 1 (by decide), xp_at, if_pos rfl]
        decide
      · rw [e221] at w
        exact ((hM.2 w).1 q).elim
    · have e := e1 q
      rw [e]
      exact ⟨AF_refl, q, fun w => (hM.2 w).2⟩
  obtain ⟨r, H2, ⟨rfl, c2, t2, m2, e2, f2⟩, h⟩ := xc_use h (sp_X6_refresh A H1 hB hf c1 t1 af1.2.2)
  have af2 : AF H1 H2 ∧ ¬ H2 215 1 = 0 ∧ ¬ H2 221 2 = 0 := by
    by_cases q : H1 221 2 = 0
    · obtain ⟨f, k⟩ := f2 q
      refine ⟨AF_KF k, ?_, ?_⟩
      · rw [k.1 215 (by decide) (by decide) (nKL (by decide) (by decide)).1 (nKL (by decide) (by decide)).2 (by decide)]
        exact af1.2.1
      · rw [f]
        decide
    · have e := e2 q
      rw [e]
      exact ⟨AF_refl, af1.2.1, q⟩
  exact ⟨none, H2, h, rfl, c2, t2, m2, af2.2.1, af2.2.2, AF_trans af1.1 af2.1⟩
theorem sp_X11_balesInShed (A : Int → Int) (b : Int) (H : PH) (hB : MB A) (hf : 0 ≤ A 4 ∧ A 4 ≤ 24) (ci : CI H A) (hT : TCf A H) (hM : MCf A H) (hb : 0 ≤ b ∧ b < A 0) : SPEC 153 [(2, 0), (0, b)] H (fun r H' => r = some (0, shdA A b) ∧ H' = H) := by
  intro E n res h
  have hA0 := hB.1
  have g46 : gv H 46 b = 57 + 3 * b := gv46 hb.1 (by omega)
  obtain ⟨m6, m7, m0, m1, m2, m3, m4, m5, m8⟩ := KB_f (KB_of (b := b) hb.1 (by omega))
  have e4 : H (57 + 3 * b) 4 = A (92 + 26 * b + 12) := (ci.1.2.1 b hb.1 hb.2).2.2.2.2.1.symm
  have e0 : H 220 b = agdA A b := hT.2.2.2 b hb.1 (by have := hT.2.1; omega)
  have z := mtoA_eq hf (b := b) ⟨hb.1, by omega⟩
  have zc : min (dueA A b) (agdA A b) = min (agdA A b) (dueA A b) := Int.min_comm _ _
  have h := call_runP 4 vm_X11_balesInShed h
  have h := xw_top (hd := []) 3 xD6_ok xc_X11_balesInShed xa_X11_balesInShed (t := 0) rfl h
  simp (maxDischargeDepth := 12) -implicitDefEqProofs [vb_X11_balesInShed_0, xI_0, xI_1, xI_3, xI_4, xI_7, xI_14, xI_15, xI_49, xI_51, xI_53, xI_55, xI_56, xI_61, xI_62, xw_X11_balesInShed_0, zw_lit, xB_c, xB_s, xB_n, i1_c, j2_c, k1_c, jJ_e, xlg, xls, xla, xpd, ppush, zw_m1, zw_m2, zw_m3, gf_0_4, gf_1_1, gf_9_7, gf_11_0, gf_11_2, gf_11_3, tg_0_4, tg_11_0, tg_11_2, tg_11_3, tg_1_1, tg_9_7, gv_1_1, gv_215_7, gv_0_0, gv_0_2, gv_0_3, xD1, xD2, xD3, xD4, xD5, xD6, xb1_0, g46, m4, e4, e0] at h
  obtain ⟨r, H1, ⟨rfl, rfl⟩, h2⟩ := xc_use h (sp_X0_dueBales b A H hB ci.1 hb)
  simp (maxDischargeDepth := 12) -implicitDefEqProofs [vb_X11_balesInShed_0, xI_0, xI_1, xI_3, xI_4, xI_7, xI_14, xI_15, xI_49, xI_51, xI_53, xI_55, xI_56, xI_61, xI_62, xw_X11_balesInShed_0, zw_lit, xB_c, xB_s, xB_n, i1_c, j2_c, k1_c, jJ_e, xlg, xls, xla, xpd, ppush, zw_m1, zw_m2, zw_m3, gf_0_4, gf_1_1, gf_9_7, gf_11_0, gf_11_2, gf_11_3, tg_0_4, tg_11_0, tg_11_2, tg_11_3, tg_1_1, tg_9_7, gv_1_1, gv_215_7, gv_0_0, gv_0_2, gv_0_3, xD1, xD2, xD3, xD4, xD5, xD6, xb1_0, e0, mn_a, zc] at h2
  obtain ⟨r, H2, ⟨rfl, rfl⟩, h3⟩ := xc_use h2 (sp_X6_broughtTo A b H1 ⟨hb.1, by omega⟩ hM)
  simp (maxDischargeDepth := 12) -implicitDefEqProofs [vb_X11_balesInShed_0, xI_0, xI_1, xI_3, xI_4, xI_7, xI_14, xI_15, xI_49, xI_51, xI_53, xI_55, xI_56, xI_61, xI_62, xw_X11_balesInShed_0, zw_lit, xB_c, xB_s, xB_n, i1_c, j2_c, k1_c, jJ_e, xlg, xls, xla, xpd, ppush, zw_m1, zw_m2, zw_m3, gf_0_4, gf_1_1, gf_9_7, gf_11_0, gf_11_2, gf_11_3, tg_0_4, tg_11_0, tg_11_2, tg_11_3, tg_1_1, tg_9_7, gv_1_1, gv_215_7, gv_0_0, gv_0_2, gv_0_3, xD1, xD2, xD3, xD4, xD5, xD6, xb1_0, m4, e4, ← z, mn_b, mn_a, zc] at h3
  refine ⟨_, H2, h3, ?_, rfl⟩
  unfold shdA
  rfl
