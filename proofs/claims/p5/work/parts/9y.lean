/-! deeds that change bills -/
theorem BRr_same {c x : Int} {H G : PH} {A B : Int → Int} (h : BRr c H A x) (e0 : G c = H c) (e1 : G (c + 1) = H (c + 1)) (e2 : G (c + 2) = H (c + 2)) (hB : ∀ j, x ≤ j → j < x + 26 → B j = A j) (s8 : A x ≤ 8) (r6 : H c 5 ≤ 6) : BRr c G B x := by
  unfold BRr at h ⊢
  rw [e0, e1, e2, hB x (by omega) (by omega), hB (x + 9) (by omega) (by omega), hB (x + 10) (by omega) (by omega), hB (x + 11) (by omega) (by omega), hB (x + 12) (by omega) (by omega), hB (x + 13) (by omega) (by omega)]
  obtain ⟨h1, h2, h3, h4, h5, h6, h7⟩ := h
  exact ⟨VM_congr h1 rfl (fun i i0 i1 => (hB _ (by omega) (by omega)).symm), h2, h3, h4, h5, h6, fun i i0 i1 => by rw [hB _ (by omega) (by omega), hB _ (by omega) (by omega)]; exact h7 i i0 i1⟩
/-- a bill of one of the cells changes -/
theorem CD_bill {H G : PH} {S : Int → Int → Int} {n k a b d u : Int} {B : Int → Int} (hR : RC H S n) (hu : 0 ≤ u ∧ u < S 0 0) (hG : ∀ c, ¬ c = 1 → ¬ c = 57 + 3 * u → ¬ c = 57 + 3 * u + 1 → ¬ c = 57 + 3 * u + 2 → G c = ndHx H k a b d c) (g1 : ∀ i, ¬ i = 13 → G 1 i = H 1 i) (f : ∀ i, ¬ (92 + 26 * u + 9 ≤ i ∧ i < 92 + 26 * u + 26) → ¬ i = 9 → B i = S 0 i) (f9 : B 9 = G 1 13) (h2 : BRr (57 + 3 * u) G B (92 + 26 * u)) (ok : OKR B) (dd : DD (ndHx H k a b d) (dnx (H 0 8)) B (S 0)) : CD H G S n B := by
  obtain ⟨x1, x2, ld, x4, h8, x6, x7⟩ := id hR
  have ok0 := x6 0 (by decide) x4.1.1
  have a0 := ok0.1.1
  obtain ⟨s0, s1, s2, s3, s4, s5, s6, s7, s8, s9⟩ := id x1.1.1
  refine CD_num hR (fun c c1 c2 => hG c c1 (by omega) (by omega) (by omega)) (fun i hi => g1 i (by omega)) (fun i hi => f i (by omega) (by omega)) (fun m b0 b1 => ?_) ?_ (fun m b0 b1 => ?_) ok dd
  · have := (ok0.1.2.2.2.1 m b0 (by omega)).2
    exact ⟨f _ (by omega) (by omega), fun i i0 i1 => f _ (by omega) (by omega)⟩
  · rw [f 3 (by omega) (by decide), f 4 (by omega) (by decide), f 5 (by omega) (by decide), f 6 (by omega) (by decide), f 7 (by omega) (by decide), f 8 (by omega) (by decide), g1 7 (by decide), g1 8 (by decide), g1 9 (by decide), g1 11 (by decide), g1 12 (by decide), g1 10 (by decide)]
    exact ⟨s3, s4, s5, s6, s7, s8, f9⟩
  · by_cases e : m = u
    · rw [e]
      exact h2
    · have gn : BRr (57 + 3 * m) (ndHx H k a b d) (S 0) (92 + 26 * m) := (CI_nd' ok0.1 x1 h8).1.2.1 m b0 b1
      have e13 := (ok0.1.2.2.2.2.1 m b0 (by omega)).2
      have e6 := gn.2.2.2.2.2.1
      exact BRr_same gn (hG _ (by omega) (by omega) (by omega) (by omega)) (hG _ (by omega) (by omega) (by omega) (by omega)) (hG _ (by omega) (by omega) (by omega) (by omega)) (fun j j0 j1 => f j (by omega) (by omega)) (ok0.1.2.2.2.1 m b0 (by omega)).2 (by omega)
theorem xup_xup {A : Int → Int} {i v u : Int} : xup (xup A i v) i u = xup A i u := by
  funext j
  unfold xup
  split
  · rfl
  · rfl
theorem xup_self {A : Int → Int} {i v : Int} (h : v = A i) : xup A i v = A := by
  funext j
  unfold xup
  split
  · rename_i e
    rw [e]
    exact h
  · rfl
theorem xup_comm {A : Int → Int} {i j v u : Int} (h : ¬ i = j) : xup (xup A i v) j u = xup (xup A j u) i v := by
  funext k
  unfold xup
  by_cases a : k = i
  · rw [if_pos a, if_pos a, if_neg (by omega)]
  · rw [if_neg a, if_neg a]
theorem xup_a {A : Int → Int} {i v : Int} : xup A i v i = v := if_pos rfl
theorem xup_n {A : Int → Int} {i j v : Int} (h : ¬ j = i) : xup A i v j = A j := if_neg h
set_option maxRecDepth 100000 in
theorem sp_c_claim (b v : Int) (S : Int → Int → Int) (n : Int) (H : PH) (hR : RC H S n) : SPEC 123 [(2, 0), (0, b), (0, v)] H (fun r H' => (((0 ≤ b ∧ b < S 0 0) ∧ (0 ≤ v ∧ v ≤ 999)) ∧ r = some (0, S 0 (92 + 26 * b + 11)) ∧ CD H H' S n (xup (S 0) (92 + 26 * b + 11) v)) ∨ (¬ ((0 ≤ b ∧ b < S 0 0) ∧ (0 ≤ v ∧ v ≤ 999)) ∧ r = some (0, -1) ∧ H' = H)) := by
  intro E n' res h
  obtain ⟨x1, x2, ld, x4, h8, x6, x7⟩ := id hR
  have ok0 := x6 0 (by decide) x4.1.1
  have a0 := ok0.1.1
  have lx := dnx_in h8
  obtain ⟨s0, s1, s2, s3, s4, s5, s6, s7, s8, s9⟩ := id x1.1.1
  have z2 : zw (H 1 2 - 1) = H 1 2 - 1 := zw_lit (by omega) (by omega)
  by_cases q4 : 0 ≤ b ∧ b < S 0 0
  · have k0 := q4.1
    have k1 : b ≤ H 1 2 - 1 := by omega
    have k2 : ¬ b < 0 := by omega
    have k3 : ¬ H 1 2 - 1 < b := by omega
    by_cases q5 : 0 ≤ v ∧ v ≤ 999
    · have q0 := q5.1
      have q1 := q5.2
      have q2 : ¬ v < 0 := by omega
      have q3 : ¬ 999 < v := by omega
      have g46 : gv H 46 b = 57 + 3 * b := gv46 k0 (by omega)
      have kb : ∀ X : PH, gv X (57 + 3 * b) 3 = X (57 + 3 * b) 3 := (KB_f (KB_of (b := b) k0 (by omega))).2.2.2.2.2.1
      have h := call_runP 5 vm_X11_claim h
      have h := xw_top (hd := []) 5 xD6_ok xc_X11_claim xa_X11_claim (t := 0) rfl h
      simp (maxDischargeDepth := 12) -implicitDefEqProofs [vb_X11_claim_0, vb_X11_claim_19, vb_X11_claim_21, xI_0, xI_1, xI_3, xI_4, xI_7, xI_9, xI_35, xI_37, xI_38, xI_49, xI_50, xI_53, xI_60, xI_61, xI_62, xw_X11_claim_0, xw_X11_claim_19, xw_X11_claim_21, zw_lit, xB_c, xB_s, xB_n, i1_c, j2_c, k1_c, jJ_e, xlg, xls, xla, xpd, ppush, zw_m1, zw_m2, zw_m3, gf_0_3, gf_1_1, gf_11_0, pf_0_3, tg_0_3, tg_11_0, tg_1_1, gv_1_1, gv_0_0, xD1, xD2, xD3, xD4, xD5, xD6, xb1_0, z2, k0, k1, k2, k3, q0, q1, q2, q3, g46, kb] at h
      obtain ⟨r, H1, ⟨rfl, rfl⟩, h⟩ := xc_use h (sp_nd 3 b (H (57 + 3 * b) 3) 0 H (by omega) h8)
      have gb := x1.1.2.1 b k0 q4.2
      have gn : BRr (57 + 3 * b) (ndHx H 3 b (H (57 + 3 * b) 3) 0) (S 0) (92 + 26 * b) := (CI_nd' ok0.1 x1 h8).1.2.1 b k0 q4.2
      have e3 := gb.2.2.2.1
      have na := nd_at (H := H) (k := 3) (a := b) (b := H (57 + 3 * b) 3) (d := 0) h8
      have n1 : ndHx H 3 b (H (57 + 3 * b) 3) 0 1 = H 1 := nd_ne h8 (by decide) (by omega) (by decide) (by decide) (by decide)
      refine ⟨_, _, h, Or.inl ⟨⟨q4, q5⟩, by rw [e3], ?_⟩⟩
      refine CD_bill (k := 3) (a := b) (b := H (57 + 3 * b) 3) (d := 0) (u := b) hR q4 (fun c _ c1 _ _ => xp_ne c1) (fun i hi => by rw [xp_ne (by omega), n1]) (fun i hi _ => xup_n (by omega)) ?_ ?_ ?_ ?_
      · rw [xp_ne (by omega), xup_n (by omega), n1]
        exact s9
      · obtain ⟨t1, t2, t3, t4, t5, t6, t7⟩ := gn
        have s8' := ok0.1.2.2.2.1 b k0 (by omega)
        have r6 := ok0.1.2.2.2.2.1 b k0 (by omega)
        have e : ∀ i, ¬ i = 3 → pup (ndHx H 3 b (H (57 + 3 * b) 3) 0) (57 + 3 * b) 3 v (57 + 3 * b) i = ndHx H 3 b (H (57 + 3 * b) 3) 0 (57 + 3 * b) i := fun i hi => by rw [xp_at, if_neg hi]
        have e3' : pup (ndHx H 3 b (H (57 + 3 * b) 3) 0) (57 + 3 * b) 3 v (57 + 3 * b) 3 = v := by rw [xp_at, if_pos rfl]
        unfold BRr
        rw [e3', e 0 (by decide), e 1 (by decide), e 2 (by decide), e 4 (by decide), e 5 (by decide), xp_ne (by omega), xp_ne (by omega), xup_a, xup_n (by omega), xup_n (by omega), xup_n (by omega), xup_n (by omega), xup_n (by omega)]
        exact ⟨VM_congr t1 rfl (fun i i0 i1 => (xup_n (by omega)).symm), t2, t3, rfl, t5, t6, fun i i0 i1 => by rw [xup_n (by omega), xup_n (by omega)]; exact t7 i i0 i1⟩
      · refine ⟨MB_xup ok0.1 (by omega) (fun m m0 m1 => ⟨by omega, fun w => by omega⟩) (fun k k0 k1 => by omega) (by unfold zIn; omega), ML_xup ok0.2.1 (by omega), OKS_xup ok0.2.2.1 (by omega), OKX_xup ok0.1 ok0.2.2.2 (by omega) (fun m m0 m1 => ⟨by omega, by omega, fun w => by omega, by omega⟩) (by omega)⟩
      · unfold DD
        rw [na.2.2.1, na.2.2.2.1, na.2.2.2.2.1, na.2.2.2.2.2.1]
        refine Or.inr (Or.inr (Or.inr (Or.inl ⟨rfl, ?_, ?_⟩)))
        · exact ⟨k0, by rw [xup_n (by omega)]; exact q4.2⟩
        rw [xup_xup, xup_self e3.symm]
        exact REq_refl _
    · by_cases q0 : 0 ≤ v
      · have q1 : ¬ v ≤ 999 := by omega
        have q2 : ¬ v < 0 := by omega
        have q3 : 999 < v := by omega
        have h := call_runP 5 vm_X11_claim h
        have h := xw_top (hd := []) 5 xD6_ok xc_X11_claim xa_X11_claim (t := 0) rfl h
        simp (maxDischargeDepth := 12) -implicitDefEqProofs [vb_X11_claim_0, vb_X11_claim_19, vb_X11_claim_21, xI_0, xI_1, xI_3, xI_4, xI_7, xI_9, xI_35, xI_37, xI_38, xI_49, xI_50, xI_53, xI_60, xI_61, xI_62, xw_X11_claim_0, xw_X11_claim_19, xw_X11_claim_21, zw_lit, xB_c, xB_s, xB_n, i1_c, j2_c, k1_c, jJ_e, xlg, xls, xla, xpd, ppush, zw_m1, zw_m2, zw_m3, gf_0_3, gf_1_1, gf_11_0, pf_0_3, tg_0_3, tg_11_0, tg_1_1, gv_1_1, gv_0_0, xD1, xD2, xD3, xD4, xD5, xD6, xb1_0, z2, k0, k1, k2, k3, q0, q1, q2, q3] at h
        exact ⟨_, _, h, Or.inr ⟨fun w => q5 w.2, rfl, rfl⟩⟩
      · have q2 : v < 0 := by omega
        have h := call_runP 5 vm_X11_claim h
        have h := xw_top (hd := []) 5 xD6_ok xc_X11_claim xa_X11_claim (t := 0) rfl h
        simp (maxDischargeDepth := 12) -implicitDefEqProofs [vb_X11_claim_0, vb_X11_claim_19, vb_X11_claim_21, xI_0, xI_1, xI_3, xI_4, xI_7, xI_9, xI_35, xI_37, xI_38, xI_49, xI_50, xI_53, xI_60, xI_61, xI_62, xw_X11_claim_0, xw_X11_claim_19, xw_X11_claim_21, zw_lit, xB_c, xB_s, xB_n, i1_c, j2_c, k1_c, jJ_e, xlg, xls, xla, xpd, ppush, zw_m1, zw_m2, zw_m3, gf_0_3, gf_1_1, gf_11_0, pf_0_3, tg_0_3, tg_11_0, tg_1_1, gv_1_1, gv_0_0, xD1, xD2, xD3, xD4, xD5, xD6, xb1_0, z2, k0, k1, k2, k3, q0, q2] at h
        exact ⟨_, _, h, Or.inr ⟨fun w => q5 w.2, rfl, rfl⟩⟩
  · by_cases k0 : 0 ≤ b
    · have k1 : ¬ b ≤ H 1 2 - 1 := by omega
      have k2 : ¬ b < 0 := by omega
      have k3 : H 1 2 - 1 < b := by omega
      have h := call_runP 5 vm_X11_claim h
      have h := xw_top (hd := []) 5 xD6_ok xc_X11_claim xa_X11_claim (t := 0) rfl h
      simp (maxDischargeDepth := 12) -implicitDefEqProofs [vb_X11_claim_0, vb_X11_claim_19, vb_X11_claim_21, xI_0, xI_1, xI_3, xI_4, xI_7, xI_9, xI_35, xI_37, xI_38, xI_49, xI_50, xI_53, xI_60, xI_61, xI_62, xw_X11_claim_0, xw_X11_claim_19, xw_X11_claim_21, zw_lit, xB_c, xB_s, xB_n, i1_c, j2_c, k1_c, jJ_e, xlg, xls, xla, xpd, ppush, zw_m1, zw_m2, zw_m3, gf_0_3, gf_1_1, gf_11_0, pf_0_3, tg_0_3, tg_11_0, tg_1_1, gv_1_1, gv_0_0, xD1, xD2, xD3, xD4, xD5, xD6, xb1_0, z2, k0, k1, k2, k3] at h
      exact ⟨_, _, h, Or.inr ⟨fun w => q4 w.1, rfl, rfl⟩⟩
    · have k2 : b < 0 := by omega
      have h := call_runP 5 vm_X11_claim h
      have h := xw_top (hd := []) 5 xD6_ok xc_X11_claim xa_X11_claim (t := 0) rfl h
      simp (maxDischargeDepth := 12) -implicitDefEqProofs [vb_X11_claim_0, vb_X11_claim_19, vb_X11_claim_21, xI_0, xI_1, xI_3, xI_4, xI_7, xI_9, xI_35, xI_37, xI_38, xI_49, xI_50, xI_53, xI_60, xI_61, xI_62, xw_X11_claim_0, xw_X11_claim_19, xw_X11_claim_21, zw_lit, xB_c, xB_s, xB_n, i1_c, j2_c, k1_c, jJ_e, xlg, xls, xla, xpd, ppush, zw_m1, zw_m2, zw_m3, gf_0_3, gf_1_1, gf_11_0, pf_0_3, tg_0_3, tg_11_0, tg_1_1, gv_1_1, gv_0_0, xD1, xD2, xD3, xD4, xD5, xD6, xb1_0, z2, k0, k2] at h
      exact ⟨_, _, h, Or.inr ⟨fun w => q4 w.1, rfl, rfl⟩⟩
set_option maxRecDepth 100000 in
theorem sp_X0_addRemark (c u v : Int) (H : PH) (hc : KB c) (h5 : 0 ≤ H c 5 ∧ H c 5 < 6) : SPEC 2 [(2, c), (0, u), (0, v)] H (fun r H' => r = none ∧ H' = pup (pup (pup H (c + 1) (H c 5) u) (c + 2) (H c 5) v) c 5 (H c 5 + 1)) := by
  intro E n res h
  obtain ⟨g6, g7, g0, g1, g2, g3, g4, g5⟩ := id (KB_f hc)
  have n1 : ¬ c = c + 1 := by omega
  have n2 : ¬ c = c + 2 := by omega
  have l6 : ¬ 6 ≤ H c 5 := by omega
  have l6' : H c 5 < 6 := h5.2
  have z5 : zw (H c 5 + 1) = H c 5 + 1 := zw_lit (by omega) (by omega)
  have h := call_runP 3 vm_X0_addRemark h
  have h := xw_top (hd := []) 4 xD6_ok xc_X0_addRemark xa_X0_addRemark (t := 0) rfl h
  simp (maxDischargeDepth := 12) -implicitDefEqProofs [vb_X0_addRemark_0, vb_X0_addRemark_39, xI_0, xI_1, xI_7, xI_8, xI_14, xI_33, xI_46, xI_49, xI_50, xI_52, xI_65, xw_X0_addRemark_0, xw_X0_addRemark_39, zw_lit, xB_c, xB_s, xB_n, i1_c, j2_c, k1_c, jJ_e, xlg, xls, xla, xpd, ppush, zw_m1, zw_m2, zw_m3, gf_0_5, gf_0_6, gf_0_7, pf_0_5, tg_0_5, tg_0_6, tg_0_7, xD1, xD2, xD3, xD4, xD5, xD6, xb1_0, g6, g7, g5, n1, n2, xp_ne, l6, l6', z5] at h
  exact ⟨_, _, h, rfl, rfl⟩
set_option maxRecDepth 100000 in
theorem sp_c_remark (b u v : Int) (S : Int → Int → Int) (n : Int) (H : PH) (hR : RC H S n) : SPEC 121 [(2, 0), (0, b), (0, u), (0, v)] H (fun r H' => (((0 ≤ b ∧ b < S 0 0) ∧ (0 ≤ u ∧ u ≤ 3) ∧ (0 ≤ v ∧ v ≤ 999) ∧ S 0 (92 + 26 * b + 13) < 6) ∧ r = some (0, S 0 (92 + 26 * b + 13) + 1) ∧ CD H H' S n (xup (xup (xup (S 0) (92 + 26 * b + 14 + 2 * S 0 (92 + 26 * b + 13)) u) (92 + 26 * b + 14 + 2 * S 0 (92 + 26 * b + 13) + 1) v) (92 + 26 * b + 13) (S 0 (92 + 26 * b + 13) + 1))) ∨ (¬ ((0 ≤ b ∧ b < S 0 0) ∧ (0 ≤ u ∧ u ≤ 3) ∧ (0 ≤ v ∧ v ≤ 999) ∧ S 0 (92 + 26 * b + 13) < 6) ∧ r = some (0, -1) ∧ H' = H)) := by
  intro E n' res h
  obtain ⟨x1, x2, ld, x4, h8, x6, x7⟩ := id hR
  have ok0 := x6 0 (by decide) x4.1.1
  have a0 := ok0.1.1
  have lx := dnx_in h8
  obtain ⟨s0, s1, s2, s3, s4, s5, s6, s7, s8, s9⟩ := id x1.1.1
  have z2 : zw (H 1 2 - 1) = H 1 2 - 1 := zw_lit (by omega) (by omega)
  by_cases q4 : 0 ≤ b ∧ b < S 0 0
  · have k0 := q4.1
    have k1 : b ≤ H 1 2 - 1 := by omega
    have k2 : ¬ b < 0 := by omega
    have k3 : ¬ H 1 2 - 1 < b := by omega
    have g46 : gv H 46 b = 57 + 3 * b := gv46 k0 (by omega)
    have kbc := KB_of (b := b) k0 (by omega)
    have kb : ∀ X : PH, gv X (57 + 3 * b) 5 = X (57 + 3 * b) 5 := (KB_f kbc).2.2.2.2.2.2.2.1
    have gb := x1.1.2.1 b k0 q4.2
    have e5 := gb.2.2.2.2.2.1
    have r6 := ok0.1.2.2.2.2.1 b k0 (by omega)
    by_cases q5 : 0 ≤ u ∧ u ≤ 3
    · have q0 := q5.1
      have q1 := q5.2
      have q2 : ¬ u < 0 := by omega
      have q3 : ¬ 3 < u := by omega
      by_cases q6 : 0 ≤ v ∧ v ≤ 999
      · have p0 := q6.1
        have p1 := q6.2
        have p2 : ¬ v < 0 := by omega
        have p3 : ¬ 999 < v := by omega
        by_cases q7 : S 0 (92 + 26 * b + 13) < 6
        · have t0 : H (57 + 3 * b) 5 < 6 := by omega
          have t1 : ¬ 6 ≤ H (57 + 3 * b) 5 := by omega
          have h := call_runP 5 vm_X11_remark h
          have h := xw_top (hd := []) 6 xD6_ok xc_X11_remark xa_X11_remark (t := 0) rfl h
          simp (maxDischargeDepth := 12) -implicitDefEqProofs [vb_X11_remark_0, vb_X11_remark_28, vb_X11_remark_30, vb_X11_remark_53, xI_0, xI_1, xI_4, xI_7, xI_8, xI_9, xI_35, xI_37, xI_38, xI_45, xI_49, xI_53, xI_60, xI_61, xI_62, xw_X11_remark_0, xw_X11_remark_28, xw_X11_remark_30, xw_X11_remark_53, zw_lit, xB_c, xB_s, xB_n, i1_c, j2_c, k1_c, jJ_e, xlg, xls, xla, xpd, ppush, zw_m1, zw_m2, zw_m3, gf_0_5, gf_1_1, gf_11_0, tg_0_5, tg_11_0, tg_1_1, gv_1_1, gv_0_0, xD1, xD2, xD3, xD4, xD5, xD6, xb1_0, z2, k0, k1, k2, k3, q0, q1, q2, q3, p0, p1, p2, p3, g46, kb, t0, t1] at h
          obtain ⟨r, H1, ⟨rfl, rfl⟩, h⟩ := xc_use h (sp_nd 2 b 0 0 H (by omega) h8)
          have nb : ndHx H 2 b 0 0 (57 + 3 * b) = H (57 + 3 * b) := nd_ne h8 (by omega) (by omega) (by omega) (by omega) (by omega)
          have nb1 : ndHx H 2 b 0 0 (57 + 3 * b + 1) = H (57 + 3 * b + 1) := nd_ne h8 (by omega) (by omega) (by omega) (by omega) (by omega)
          have nb2 : ndHx H 2 b 0 0 (57 + 3 * b + 2) = H (57 + 3 * b + 2) := nd_ne h8 (by omega) (by omega) (by omega) (by omega) (by omega)
          have h := xc_use h (sp_X0_addRemark (57 + 3 * b) u v _ kbc (by rw [nb]; omega))
          obtain ⟨r, H1, ⟨rfl, rfl⟩, h⟩ := h
          have h : REPR E res (some (0, _)) _ := h
          rw [xp_at, if_pos rfl, nb] at h
          have na := nd_at (H := H) (k := 2) (a := b) (b := 0) (d := 0) h8
          have n1 : ndHx H 2 b 0 0 1 = H 1 := nd_ne h8 (by decide) (by omega) (by decide) (by decide) (by decide)
          refine ⟨_, _, h, Or.inl ⟨⟨q4, q5, q6, q7⟩, by rw [e5], ?_⟩⟩
          refine CD_bill (k := 2) (a := b) (b := 0) (d := 0) (u := b) hR q4 (fun c _ c1 c2 c3 => by rw [xp_ne c1, xp_ne c3, xp_ne c2]) (fun i hi => by rw [xp_ne (by omega), xp_ne (by omega), xp_ne (by omega), n1]) (fun i hi _ => by rw [xup_n (by omega), xup_n (by omega), xup_n (by omega)]) ?_ ?_ ?_ ?_
          · rw [xp_ne (by omega), xp_ne (by omega), xp_ne (by omega), xup_n (by omega), xup_n (by omega), xup_n (by omega), n1]
            exact s9
          · have s8' := ok0.1.2.2.2.1 b k0 (by omega)
            obtain ⟨t1, t2, t3, t4, t5, t6, t7⟩ := gb
            have c0 : ∀ i, pup (pup (pup (ndHx H 2 b 0 0) (57 + 3 * b + 1) (H (57 + 3 * b) 5) u) (57 + 3 * b + 2) (H (57 + 3 * b) 5) v) (57 + 3 * b) 5 (H (57 + 3 * b) 5 + 1) (57 + 3 * b) i = if i = 5 then H (57 + 3 * b) 5 + 1 else H (57 + 3 * b) i := fun i => by rw [xp_at, xp_ne (by omega), xp_ne (by omega), nb]
            have c1 : ∀ i, pup (pup (pup (ndHx H 2 b 0 0) (57 + 3 * b + 1) (H (57 + 3 * b) 5) u) (57 + 3 * b + 2) (H (57 + 3 * b) 5) v) (57 + 3 * b) 5 (H (57 + 3 * b) 5 + 1) (57 + 3 * b + 1) i = if i = H (57 + 3 * b) 5 then u else H (57 + 3 * b + 1) i := fun i => by rw [xp_ne (by omega), xp_ne (by omega), xp_at, nb1]
            have c2 : ∀ i, pup (pup (pup (ndHx H 2 b 0 0) (57 + 3 * b + 1) (H (57 + 3 * b) 5) u) (57 + 3 * b + 2) (H (57 + 3 * b) 5) v) (57 + 3 * b) 5 (H (57 + 3 * b) 5 + 1) (57 + 3 * b + 2) i = if i = H (57 + 3 * b) 5 then v else H (57 + 3 * b + 2) i := fun i => by rw [xp_ne (by omega), xp_at, xp_ne (by omega), nb2]
            have B0 : ∀ j, ¬ j = 92 + 26 * b + 13 → ¬ j = 92 + 26 * b + 14 + 2 * S 0 (92 + 26 * b + 13) → ¬ j = 92 + 26 * b + 14 + 2 * S 0 (92 + 26 * b + 13) + 1 → xup (xup (xup (S 0) (92 + 26 * b + 14 + 2 * S 0 (92 + 26 * b + 13)) u) (92 + 26 * b + 14 + 2 * S 0 (92 + 26 * b + 13) + 1) v) (92 + 26 * b + 13) (S 0 (92 + 26 * b + 13) + 1) j = S 0 j := fun j j1 j2 j3 => by rw [xup_n j1, xup_n j3, xup_n j2]
            unfold BRr
            rw [c0, c0, c0, c0, c0, c0, if_neg (by decide), if_neg (by decide), if_neg (by decide), if_neg (by decide), if_neg (by decide), if_pos rfl, B0 _ (by omega) (by omega) (by omega), B0 _ (by omega) (by omega) (by omega), B0 _ (by omega) (by omega) (by omega), B0 _ (by omega) (by omega) (by omega), B0 _ (by omega) (by omega) (by omega), xup_a]
            refine ⟨VM_congr t1 rfl (fun i i0 i1 => (B0 _ (by omega) (by omega) (by omega)).symm), t2, t3, t4, t5, by rw [e5], fun i i0 i1 => ?_⟩
            rw [c1, c2]
            by_cases e : i = H (57 + 3 * b) 5
            · rw [if_pos e, if_pos e, e, ← e5, xup_n (by omega), xup_n (by omega), xup_a, xup_n (by omega), xup_a]
              exact ⟨rfl, rfl⟩
            · rw [if_neg e, if_neg e, B0 _ (by omega) (by omega) (by omega), B0 _ (by omega) (by omega) (by omega)]
              exact t7 i i0 (by omega)
          · have o1 := MB_xup (i := 92 + 26 * b + 14 + 2 * S 0 (92 + 26 * b + 13)) (v := u) ok0.1 (by omega) (fun m m0 m1 => ⟨by omega, fun w => by omega⟩) (fun k k0 k1 => by omega) (by unfold zIn; omega)
            have o2 := MB_xup (i := 92 + 26 * b + 14 + 2 * S 0 (92 + 26 * b + 13) + 1) (v := v) o1 (by omega) (fun m m0 m1 => ⟨by omega, fun w => by omega⟩) (fun k k0 k1 => by omega) (by unfold zIn; omega)
            refine ⟨MB_xup o2 (by omega) (fun m m0 m1 => ⟨by omega, fun w => by omega⟩) (fun k k0 k1 => by omega) (by unfold zIn; omega), ML_xup (ML_xup (ML_xup ok0.2.1 (by omega)) (by omega)) (by omega), OKS_xup (OKS_xup (OKS_xup ok0.2.2.1 (by omega)) (by omega)) (by omega), ?_⟩
            have B0 : ∀ j, ¬ j = 92 + 26 * b + 13 → ¬ j = 92 + 26 * b + 14 + 2 * S 0 (92 + 26 * b + 13) → ¬ j = 92 + 26 * b + 14 + 2 * S 0 (92 + 26 * b + 13) + 1 → xup (xup (xup (S 0) (92 + 26 * b + 14 + 2 * S 0 (92 + 26 * b + 13)) u) (92 + 26 * b + 14 + 2 * S 0 (92 + 26 * b + 13) + 1) v) (92 + 26 * b + 13) (S 0 (92 + 26 * b + 13) + 1) j = S 0 j := fun j j1 j2 j3 => by rw [xup_n j1, xup_n j3, xup_n j2]
            unfold OKX
            rw [B0 0 (by omega) (by omega) (by omega), B0 2 (by omega) (by omega) (by omega)]
            refine ⟨fun m m0 m1 => ?_, fun k k0 k1 => ?_⟩
            · obtain ⟨y1, y2, y3, y4⟩ := ok0.2.2.2.1 m m0 m1
              have m6 := ok0.1.2.2.2.2.1 m m0 (by omega)
              rw [B0 (92 + 26 * m + 9) (by omega) (by omega) (by omega), B0 (92 + 26 * m + 10) (by omega) (by omega) (by omega), B0 (92 + 26 * m + 11) (by omega) (by omega) (by omega)]
              refine ⟨y1, y2, y3, fun i i0 i1 => ?_⟩
              by_cases e : m = b
              · rw [e] at i1 ⊢
                rw [xup_a] at i1
                by_cases e2 : i = S 0 (92 + 26 * b + 13)
                · rw [e2, xup_n (by omega), xup_n (by omega), xup_a, xup_n (by omega), xup_a]
                  exact ⟨q5, q6⟩
                · rw [B0 _ (by omega) (by omega) (by omega), B0 _ (by omega) (by omega) (by omega)]
                  rw [e] at y4
                  exact y4 i i0 (by omega)
              · rw [B0 _ (by omega) (by omega) (by omega)] at i1
                rw [B0 _ (by omega) (by omega) (by omega), B0 _ (by omega) (by omega) (by omega)]
                exact y4 i i0 i1
            · rw [B0 _ (by omega) (by omega) (by omega), B0 _ (by omega) (by omega) (by omega), B0 _ (by omega) (by omega) (by omega)]
              exact ok0.2.2.2.2 k k0 k1
          · unfold DD
            rw [na.2.2.1, na.2.2.2.1, na.2.2.2.2.1, na.2.2.2.2.2.1]
            refine Or.inr (Or.inr (Or.inl ⟨rfl, ?_, ?_, ?_⟩))
            · exact ⟨k0, by rw [xup_n (by omega), xup_n (by omega), xup_n (by omega)]; exact q4.2⟩
            · rw [xup_a]
              omega
            · rw [xup_a, xup_xup, show S 0 (92 + 26 * b + 13) + 1 - 1 = S 0 (92 + 26 * b + 13) by omega]
              have B1 : ∀ j, ¬ j = 92 + 26 * b + 14 + 2 * S 0 (92 + 26 * b + 13) → ¬ j = 92 + 26 * b + 14 + 2 * S 0 (92 + 26 * b + 13) + 1 → xup (xup (xup (S 0) (92 + 26 * b + 14 + 2 * S 0 (92 + 26 * b + 13)) u) (92 + 26 * b + 14 + 2 * S 0 (92 + 26 * b + 13) + 1) v) (92 + 26 * b + 13) (S 0 (92 + 26 * b + 13)) j = S 0 j := fun j j2 j3 => by
                by_cases j1 : j = 92 + 26 * b + 13
                · rw [j1, xup_a]
                · rw [xup_n j1, xup_n j3, xup_n j2]
              have A1 := ok0.1.2.1
              have A2 := ok0.1.2.2.1
              have A11 := OKR_11 ok0
              refine REq_symm ⟨fun i i0 i1 => (B1 i (by omega) (by omega)).symm, fun i i0 i1 => ⟨(B1 _ (by omega) (by omega)).symm, (B1 _ (by omega) (by omega)).symm⟩, fun m m0 m1 => ?_, fun k k0 k1 => ?_, fun k k0 k1 => (B1 _ (by omega) (by omega)).symm⟩
              · have m6 := ok0.1.2.2.2.2.1 m m0 (by omega)
                have m8 := ok0.1.2.2.2.1 m m0 (by omega)
                refine ⟨(B1 _ (by omega) (by omega)).symm, fun i i0 i1 => (B1 _ (by omega) (by omega)).symm, (B1 _ (by omega) (by omega)).symm, (B1 _ (by omega) (by omega)).symm, (B1 _ (by omega) (by omega)).symm, (B1 _ (by omega) (by omega)).symm, (B1 _ (by omega) (by omega)).symm, fun i i0 i1 => ?_⟩
                by_cases e : m = b
                · rw [e] at i1 ⊢
                  exact ⟨(B1 _ (by omega) (by omega)).symm, (B1 _ (by omega) (by omega)).symm⟩
                · exact ⟨(B1 _ (by omega) (by omega)).symm, (B1 _ (by omega) (by omega)).symm⟩
              · have k8 := ok0.1.2.2.2.2.2.1 k k0 (by omega)
                exact ⟨(B1 _ (by omega) (by omega)).symm, (B1 _ (by omega) (by omega)).symm, (B1 _ (by omega) (by omega)).symm, (B1 _ (by omega) (by omega)).symm, fun i i0 i1 => (B1 _ (by omega) (by omega)).symm⟩
        · have t0 : ¬ H (57 + 3 * b) 5 < 6 := by omega
          have t1 : 6 ≤ H (57 + 3 * b) 5 := by omega
          have h := call_runP 5 vm_X11_remark h
          have h := xw_top (hd := []) 6 xD6_ok xc_X11_remark xa_X11_remark (t := 0) rfl h
          simp (maxDischargeDepth := 12) -implicitDefEqProofs [vb_X11_remark_0, vb_X11_remark_28, vb_X11_remark_30, vb_X11_remark_53, xI_0, xI_1, xI_4, xI_7, xI_8, xI_9, xI_35, xI_37, xI_38, xI_45, xI_49, xI_53, xI_60, xI_61, xI_62, xw_X11_remark_0, xw_X11_remark_28, xw_X11_remark_30, xw_X11_remark_53, zw_lit, xB_c, xB_s, xB_n, i1_c, j2_c, k1_c, jJ_e, xlg, xls, xla, xpd, ppush, zw_m1, zw_m2, zw_m3, gf_0_5, gf_1_1, gf_11_0, tg_0_5, tg_11_0, tg_1_1, gv_1_1, gv_0_0, xD1, xD2, xD3, xD4, xD5, xD6, xb1_0, z2, k0, k1, k2, k3, q0, q1, q2, q3, p0, p1, p2, p3, g46, kb, t0, t1] at h
          exact ⟨_, _, h, Or.inr ⟨fun w => q7 w.2.2.2, rfl, rfl⟩⟩
      · by_cases p0 : 0 ≤ v
        · have p1 : ¬ v ≤ 999 := by omega
          have p2 : ¬ v < 0 := by omega
          have p3 : 999 < v := by omega
          have h := call_runP 5 vm_X11_remark h
          have h := xw_top (hd := []) 6 xD6_ok xc_X11_remark xa_X11_remark (t := 0) rfl h
          simp (maxDischargeDepth := 12) -implicitDefEqProofs [vb_X11_remark_0, vb_X11_remark_28, vb_X11_remark_30, vb_X11_remark_53, xI_0, xI_1, xI_4, xI_7, xI_8, xI_9, xI_35, xI_37, xI_38, xI_45, xI_49, xI_53, xI_60, xI_61, xI_62, xw_X11_remark_0, xw_X11_remark_28, xw_X11_remark_30, xw_X11_remark_53, zw_lit, xB_c, xB_s, xB_n, i1_c, j2_c, k1_c, jJ_e, xlg, xls, xla, xpd, ppush, zw_m1, zw_m2, zw_m3, gf_0_5, gf_1_1, gf_11_0, tg_0_5, tg_11_0, tg_1_1, gv_1_1, gv_0_0, xD1, xD2, xD3, xD4, xD5, xD6, xb1_0, z2, k0, k1, k2, k3, q0, q1, q2, q3, p0, p1, p2, p3] at h
          exact ⟨_, _, h, Or.inr ⟨fun w => q6 w.2.2.1, rfl, rfl⟩⟩
        · have p2 : v < 0 := by omega
          have h := call_runP 5 vm_X11_remark h
          have h := xw_top (hd := []) 6 xD6_ok xc_X11_remark xa_X11_remark (t := 0) rfl h
          simp (maxDischargeDepth := 12) -implicitDefEqProofs [vb_X11_remark_0, vb_X11_remark_28, vb_X11_remark_30, vb_X11_remark_53, xI_0, xI_1, xI_4, xI_7, xI_8, xI_9, xI_35, xI_37, xI_38, xI_45, xI_49, xI_53, xI_60, xI_61, xI_62, xw_X11_remark_0, xw_X11_remark_28, xw_X11_remark_30, xw_X11_remark_53, zw_lit, xB_c, xB_s, xB_n, i1_c, j2_c, k1_c, jJ_e, xlg, xls, xla, xpd, ppush, zw_m1, zw_m2, zw_m3, gf_0_5, gf_1_1, gf_11_0, tg_0_5, tg_11_0, tg_1_1, gv_1_1, gv_0_0, xD1, xD2, xD3, xD4, xD5, xD6, xb1_0, z2, k0, k1, k2, k3, q0, q1, q2, q3, p0, p2] at h
          exact ⟨_, _, h, Or.inr ⟨fun w => q6 w.2.2.1, rfl, rfl⟩⟩
    · by_cases q0 : 0 ≤ u
      · have q1 : ¬ u ≤ 3 := by omega
        have q2 : ¬ u < 0 := by omega
        have q3 : 3 < u := by omega
        have h := call_runP 5 vm_X11_remark h
        have h := xw_top (hd := []) 6 xD6_ok xc_X11_remark xa_X11_remark (t := 0) rfl h
        simp (maxDischargeDepth := 12) -implicitDefEqProofs [vb_X11_remark_0, vb_X11_remark_28, vb_X11_remark_30, vb_X11_remark_53, xI_0, xI_1, xI_4, xI_7, xI_8, xI_9, xI_35, xI_37, xI_38, xI_45, xI_49, xI_53, xI_60, xI_61, xI_62, xw_X11_remark_0, xw_X11_remark_28, xw_X11_remark_30, xw_X11_remark_53, zw_lit, xB_c, xB_s, xB_n, i1_c, j2_c, k1_c, jJ_e, xlg, xls, xla, xpd, ppush, zw_m1, zw_m2, zw_m3, gf_0_5, gf_1_1, gf_11_0, tg_0_5, tg_11_0, tg_1_1, gv_1_1, gv_0_0, xD1, xD2, xD3, xD4, xD5, xD6, xb1_0, z2, k0, k1, k2, k3, q0, q1, q2, q3] at h
        exact ⟨_, _, h, Or.inr ⟨fun w => q5 w.2.1, rfl, rfl⟩⟩
      · have q2 : u < 0 := by omega
        have h := call_runP 5 vm_X11_remark h
        have h := xw_top (hd := []) 6 xD6_ok xc_X11_remark xa_X11_remark (t := 0) rfl h
        simp (maxDischargeDepth := 12) -implicitDefEqProofs [vb_X11_remark_0, vb_X11_remark_28, vb_X11_remark_30, vb_X11_remark_53, xI_0, xI_1, xI_4, xI_7, xI_8, xI_9, xI_35, xI_37, xI_38, xI_45, xI_49, xI_53, xI_60, xI_61, xI_62, xw_X11_remark_0, xw_X11_remark_28, xw_X11_remark_30, xw_X11_remark_53, zw_lit, xB_c, xB_s, xB_n, i1_c, j2_c, k1_c, jJ_e, xlg, xls, xla, xpd, ppush, zw_m1, zw_m2, zw_m3, gf_0_5, gf_1_1, gf_11_0, tg_0_5, tg_11_0, tg_1_1, gv_1_1, gv_0_0, xD1, xD2, xD3, xD4, xD5, xD6, xb1_0, z2, k0, k1, k2, k3, q0, q2] at h
        exact ⟨_, _, h, Or.inr ⟨fun w => q5 w.2.1, rfl, rfl⟩⟩
  · by_cases k0 : 0 ≤ b
    · have k1 : ¬ b ≤ H 1 2 - 1 := by omega
      have k2 : ¬ b < 0 := by omega
      have k3 : H 1 2 - 1 < b := by omega
      have h := call_runP 5 vm_X11_remark h
      have h := xw_top (hd := []) 6 xD6_ok xc_X11_remark xa_X11_remark (t := 0) rfl h
      simp (maxDischargeDepth := 12) -implicitDefEqProofs [vb_X11_remark_0, vb_X11_remark_28, vb_X11_remark_30, vb_X11_remark_53, xI_0, xI_1, xI_4, xI_7, xI_8, xI_9, xI_35, xI_37, xI_38, xI_45, xI_49, xI_53, xI_60, xI_61, xI_62, xw_X11_remark_0, xw_X11_remark_28, xw_X11_remark_30, xw_X11_remark_53, zw_lit, xB_c, xB_s, xB_n, i1_c, j2_c, k1_c, jJ_e, xlg, xls, xla, xpd, ppush, zw_m1, zw_m2, zw_m3, gf_0_5, gf_1_1, gf_11_0, tg_0_5, tg_11_0, tg_1_1, gv_1_1, gv_0_0, xD1, xD2, xD3, xD4, xD5, xD6, xb1_0, z2, k0, k1, k2, k3] at h
      exact ⟨_, _, h, Or.inr ⟨fun w => q4 w.1, rfl, rfl⟩⟩
    · have k2 : b < 0 := by omega
      have h := call_runP 5 vm_X11_remark h
      have h := xw_top (hd := []) 6 xD6_ok xc_X11_remark xa_X11_remark (t := 0) rfl h
      simp (maxDischargeDepth := 12) -implicitDefEqProofs [vb_X11_remark_0, vb_X11_remark_28, vb_X11_remark_30, vb_X11_remark_53, xI_0, xI_1, xI_4, xI_7, xI_8, xI_9, xI_35, xI_37, xI_38, xI_45, xI_49, xI_53, xI_60, xI_61, xI_62, xw_X11_remark_0, xw_X11_remark_28, xw_X11_remark_30, xw_X11_remark_53, zw_lit, xB_c, xB_s, xB_n, i1_c, j2_c, k1_c, jJ_e, xlg, xls, xla, xpd, ppush, zw_m1, zw_m2, zw_m3, gf_0_5, gf_1_1, gf_11_0, tg_0_5, tg_11_0, tg_1_1, gv_1_1, gv_0_0, xD1, xD2, xD3, xD4, xD5, xD6, xb1_0, z2, k0, k2] at h
      exact ⟨_, _, h, Or.inr ⟨fun w => q4 w.1, rfl, rfl⟩⟩
