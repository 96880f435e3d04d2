/-- the model's rows behind layReads -/
def LRd (A : Int → Int) (H : PH) : Prop := TM A (tlZ A) H ∧ (0 ≤ (tlZ A).1 ∧ (tlZ A).1 ≤ 60) ∧ (∀ x, 0 ≤ x → x < A 2 → H 600 x = rdL A x) ∧ (∀ x, 0 ≤ x → x < 12 + (tlZ A).1 → H 605 x = agdA A x)
set_option maxRecDepth 100000 in
theorem lp_lr2 (A : Int → Int) (hB : MB A) (hL : ML A) (t : tS) (ht : 0 ≤ t.1 ∧ t.1 ≤ 60) {E : xE} {res : xR} : ∀ (n : Nat) (s v : Int) (H : PH), 0 ≤ s → s ≤ 12 + t.1 → H 591 = A → TM A t H → (∀ x, 0 ≤ x → x < s → H 605 x = agA A (t.2.2.1 x) (t.2.2.2 x) (if x < A 0 then A (92 + 26 * x + 9) else 0)) → RUN E res n kd_X12_layReads (zget kd_X12_layReads 173) 173 [590, s, v] [] H → ∃ H' : PH, TM A t H' ∧ (∀ x, 0 ≤ x → x < 12 + t.1 → H' 605 x = agA A (t.2.2.1 x) (t.2.2.2 x) (if x < A 0 then A (92 + 26 * x + 9) else 0)) ∧ SCm [598, 605] [] H H' ∧ REPR E res none H' := by
  obtain ⟨k0, k1, k2, k3, k4, k5, k6⟩ := id hB
  intro n
  induction n using Nat.strongRecOn with
  | _ n ih =>
    intro s v H hs0 hs1 hA hT hR h
    obtain ⟨t1, t2, t3, t4⟩ := id hT
    have z0 : zw (12 + t.1) = 12 + t.1 := zw_lit (by omega) (by omega)
    by_cases q : 12 + t.1 ≤ s
    · have h := xw_top (hd := [173]) 17 xD5_ok xc_X12_layReads xa_X12_layReads (t := 173) rfl h
      simp (maxDischargeDepth := 12) -implicitDefEqProofs [vb_X12_layReads_0, vb_X12_layReads_7, vb_X12_layReads_33, vb_X12_layReads_35, vb_X12_layReads_78, vb_X12_layReads_79, vb_X12_layReads_101, vb_X12_layReads_107, vb_X12_layReads_145, vb_X12_layReads_165, vb_X12_layReads_171, vb_X12_layReads_173, vb_X12_layReads_227, vb_X12_layReads_228, vb_X12_layReads_238, xI_0, xI_1, xI_3, xI_6, xI_7, xI_8, xI_14, xI_34, xI_36, xI_38, xI_40, xI_46, xI_49, xI_50, xI_51, xI_52, xI_60, xI_61, xI_65, xw_X12_layReads_0, xw_X12_layReads_7, xw_X12_layReads_33, xw_X12_layReads_35, xw_X12_layReads_78, xw_X12_layReads_79, xw_X12_layReads_101, xw_X12_layReads_107, xw_X12_layReads_145, xw_X12_layReads_165, xw_X12_layReads_171, xw_X12_layReads_173, xw_X12_layReads_227, xw_X12_layReads_228, xw_X12_layReads_238, zw_lit, xB_c, xB_s, xB_n, i1_c, j2_c, k1_c, jJ_e, xlg, xls, xla, xpd, ppush, zw_m1, zw_m2, zw_m3, gf_12_0, gf_12_20, gf_12_22, gf_12_23, gf_12_24, gf_12_25, gf_12_26, pf_12_26, tg_12_0, tg_12_20, tg_12_22, tg_12_23, tg_12_24, tg_12_25, tg_12_26, gv_590_0, gv_590_20, gv_590_22, gv_590_23, gv_590_24, gv_590_25, gv_590_26, xD1, xD2, xD3, xD4, xD5, hA, t1, z0] at h
      rcases h with ⟨_, h⟩ | ⟨q', h⟩
      · exact ⟨H, hT, fun x x0 x1 => hR x x0 (by omega), SCm_refl, h⟩
      · omega
    · have z1 : zw (s + 1) = s + 1 := zw_lit (by omega) (by omega)
      have go : ∀ w : Int, w = (if s < A 0 then A (92 + 26 * s + 9) else 0) → xC E n 193 [(2, 590), (0, t.2.2.1 s), (0, t.2.2.2 s), (0, w)] H (fun r H2 => xB (fun t L st H => if t ∈ [173] then xJ E res n kd_X12_layReads t L st H else xW E res n kd_X12_layReads xm_X12_layReads [173] (xD5 E n) 0 t L st H) (REPR E res) (xD5 E n) none [(231, 52, 232, 0, 0), (232, 6, 235, 1, 1), (235, 36, 238, 173, 0)] 231 [590, s, v] (ppush r [(0, s), (2, 605)]) H2) → ∃ H' : PH, TM A t H' ∧ (∀ x, 0 ≤ x → x < 12 + t.1 → H' 605 x = agA A (t.2.2.1 x) (t.2.2.2 x) (if x < A 0 then A (92 + 26 * x + 9) else 0)) ∧ SCm [598, 605] [] H H' ∧ REPR E res none H' := by
        intro w hw g
        obtain ⟨r, H2, ⟨rfl, sc⟩, g⟩ := xc_use g (sp_X12_agree _ _ w H (by rw [hA]; exact hL))
        rw [hA] at g
        simp (maxDischargeDepth := 12) -implicitDefEqProofs [vb_X12_layReads_0, vb_X12_layReads_7, vb_X12_layReads_33, vb_X12_layReads_35, vb_X12_layReads_78, vb_X12_layReads_79, vb_X12_layReads_101, vb_X12_layReads_107, vb_X12_layReads_145, vb_X12_layReads_165, vb_X12_layReads_171, vb_X12_layReads_173, vb_X12_layReads_227, vb_X12_layReads_228, vb_X12_layReads_238, xI_0, xI_1, xI_3, xI_6, xI_7, xI_8, xI_14, xI_34, xI_36, xI_38, xI_40, xI_46, xI_49, xI_50, xI_51, xI_52, xI_60, xI_61, xI_65, xw_X12_layReads_0, xw_X12_layReads_7, xw_X12_layReads_33, xw_X12_layReads_35, xw_X12_layReads_78, xw_X12_layReads_79, xw_X12_layReads_101, xw_X12_layReads_107, xw_X12_layReads_145, xw_X12_layReads_165, xw_X12_layReads_171, xw_X12_layReads_173, xw_X12_layReads_227, xw_X12_layReads_228, xw_X12_layReads_238, zw_lit, xB_c, xB_s, xB_n, i1_c, j2_c, k1_c, jJ_e, xlg, xls, xla, xpd, ppush, zw_m1, zw_m2, zw_m3, gf_12_0, gf_12_20, gf_12_22, gf_12_23, gf_12_24, gf_12_25, gf_12_26, pf_12_26, tg_12_0, tg_12_20, tg_12_22, tg_12_23, tg_12_24, tg_12_25, tg_12_26, gv_590_0, gv_590_20, gv_590_22, gv_590_23, gv_590_24, gv_590_25, gv_590_26, xD1, xD2, xD3, xD4, xD5, z1] at g
        obtain ⟨m, hm, g⟩ := g
        have e : ∀ c, ¬ c = 598 → ¬ c = 590 → H2 c = H c := fun c a b => sc.1 c (by simp [a]) b
        obtain ⟨H', g1, g2, g3, g4⟩ := ih m hm (s + 1) v _ (by omega) (by omega) (by rw [xp_ne (by decide), e 591 (by decide) (by decide)]; exact hA) ⟨by rw [xp_ne (by decide), sc.2 26 (by decide)]; exact t1, fun x x0 x1 => by rw [xp_ne (by decide), e 601 (by decide) (by decide)]; exact t2 x x0 x1, fun x x0 x1 => by rw [xp_ne (by decide), e 603 (by decide) (by decide)]; exact t3 x x0 x1, fun x x0 x1 => by rw [xp_ne (by decide), e 604 (by decide) (by decide)]; exact t4 x x0 x1⟩ (fun x x0 x1 => by
          rw [xp_at, e 605 (by decide) (by decide)]
          split
          · rename_i e
            rw [e, hw]
          · exact hR x x0 (by omega)) g
        exact ⟨H', g1, g2, SCm_trans (SCm_trans (SCm_sub sc (by decide) (by decide)) (SCm_cell (by decide) (by decide))) g3, g4⟩
      have e3 : H 603 s = t.2.2.1 s := t3 s hs0 (by omega)
      have e4 : H 604 s = t.2.2.2 s := t4 s hs0 (by omega)
      by_cases c : s < A 0
      · have z2 : zw (26 * s) = 26 * s := zw_lit (by omega) (by omega)
        have z3 : zw (92 + 26 * s) = 92 + 26 * s := zw_lit (by omega) (by omega)
        have z4 : zw (92 + 26 * s + 9) = 92 + 26 * s + 9 := zw_lit (by omega) (by omega)
        have go := go (A (92 + 26 * s + 9)) (by rw [if_pos c])
        simp (maxDischargeDepth := 12) -implicitDefEqProofs [vb_X12_layReads_0, vb_X12_layReads_7, vb_X12_layReads_33, vb_X12_layReads_35, vb_X12_layReads_78, vb_X12_layReads_79, vb_X12_layReads_101, vb_X12_layReads_107, vb_X12_layReads_145, vb_X12_layReads_165, vb_X12_layReads_171, vb_X12_layReads_173, vb_X12_layReads_227, vb_X12_layReads_228, vb_X12_layReads_238, xI_0, xI_1, xI_3, xI_6, xI_7, xI_8, xI_14, xI_34, xI_36, xI_38, xI_40, xI_46, xI_49, xI_50, xI_51, xI_52, xI_60, xI_61, xI_65, xw_X12_layReads_0, xw_X12_layReads_7, xw_X12_layReads_33, xw_X12_layReads_35, xw_X12_layReads_78, xw_X12_layReads_79, xw_X12_layReads_101, xw_X12_layReads_107, xw_X12_layReads_145, xw_X12_layReads_165, xw_X12_layReads_171, xw_X12_layReads_173, xw_X12_layReads_227, xw_X12_layReads_228, xw_X12_layReads_238, zw_lit, xB_c, xB_s, xB_n, i1_c, j2_c, k1_c, jJ_e, xlg, xls, xla, xpd, ppush, zw_m1, zw_m2, zw_m3, gf_12_0, gf_12_20, gf_12_22, gf_12_23, gf_12_24, gf_12_25, gf_12_26, pf_12_26, tg_12_0, tg_12_20, tg_12_22, tg_12_23, tg_12_24, tg_12_25, tg_12_26, gv_590_0, gv_590_20, gv_590_22, gv_590_23, gv_590_24, gv_590_25, gv_590_26, xD1, xD2, xD3, xD4, xD5, z1] at go
        have h := xw_top (hd := [173]) 17 xD5_ok xc_X12_layReads xa_X12_layReads (t := 173) rfl h
        simp (maxDischargeDepth := 12) -implicitDefEqProofs [vb_X12_layReads_0, vb_X12_layReads_7, vb_X12_layReads_33, vb_X12_layReads_35, vb_X12_layReads_78, vb_X12_layReads_79, vb_X12_layReads_101, vb_X12_layReads_107, vb_X12_layReads_145, vb_X12_layReads_165, vb_X12_layReads_171, vb_X12_layReads_173, vb_X12_layReads_227, vb_X12_layReads_228, vb_X12_layReads_238, xI_0, xI_1, xI_3, xI_6, xI_7, xI_8, xI_14, xI_34, xI_36, xI_38, xI_40, xI_46, xI_49, xI_50, xI_51, xI_52, xI_60, xI_61, xI_65, xw_X12_layReads_0, xw_X12_layReads_7, xw_X12_layReads_33, xw_X12_layReads_35, xw_X12_layReads_78, xw_X12_layReads_79, xw_X12_layReads_101, xw_X12_layReads_107, xw_X12_layReads_145, xw_X12_layReads_165, xw_X12_layReads_171, xw_X12_layReads_173, xw_X12_layReads_227, xw_X12_layReads_228, xw_X12_layReads_238, zw_lit, xB_c, xB_s, xB_n, i1_c, j2_c, k1_c, jJ_e, xlg, xls, xla, xpd, ppush, zw_m1, zw_m2, zw_m3, gf_12_0, gf_12_20, gf_12_22, gf_12_23, gf_12_24, gf_12_25, gf_12_26, pf_12_26, tg_12_0, tg_12_20, tg_12_22, tg_12_23, tg_12_24, tg_12_25, tg_12_26, gv_590_0, gv_590_20, gv_590_22, gv_590_23, gv_590_24, gv_590_25, gv_590_26, xD1, xD2, xD3, xD4, xD5, hA, t1, z0, z1, z2, z3, z4, e3, e4] at h
        rcases h with ⟨q', h⟩ | ⟨_, h⟩
        · omega
        · rcases h with ⟨c', h⟩ | ⟨_, h⟩
          · omega
          · exact go h
      · have go := go 0 (by rw [if_neg c])
        simp (maxDischargeDepth := 12) -implicitDefEqProofs [vb_X12_layReads_0, vb_X12_layReads_7, vb_X12_layReads_33, vb_X12_layReads_35, vb_X12_layReads_78, vb_X12_layReads_79, vb_X12_layReads_101, vb_X12_layReads_107, vb_X12_layReads_145, vb_X12_layReads_165, vb_X12_layReads_171, vb_X12_layReads_173, vb_X12_layReads_227, vb_X12_layReads_228, vb_X12_layReads_238, xI_0, xI_1, xI_3, xI_6, xI_7, xI_8, xI_14, xI_34, xI_36, xI_38, xI_40, xI_46, xI_49, xI_50, xI_51, xI_52, xI_60, xI_61, xI_65, xw_X12_layReads_0, xw_X12_layReads_7, xw_X12_layReads_33, xw_X12_layReads_35, xw_X12_layReads_78, xw_X12_layReads_79, xw_X12_layReads_101, xw_X12_layReads_107, xw_X12_layReads_145, xw_X12_layReads_165, xw_X12_layReads_171, xw_X12_layReads_173, xw_X12_layReads_227, xw_X12_layReads_228, xw_X12_layReads_238, zw_lit, xB_c, xB_s, xB_n, i1_c, j2_c, k1_c, jJ_e, xlg, xls, xla, xpd, ppush, zw_m1, zw_m2, zw_m3, gf_12_0, gf_12_20, gf_12_22, gf_12_23, gf_12_24, gf_12_25, gf_12_26, pf_12_26, tg_12_0, tg_12_20, tg_12_22, tg_12_23, tg_12_24, tg_12_25, tg_12_26, gv_590_0, gv_590_20, gv_590_22, gv_590_23, gv_590_24, gv_590_25, gv_590_26, xD1, xD2, xD3, xD4, xD5, z1] at go
        have h := xw_top (hd := [173]) 17 xD5_ok xc_X12_layReads xa_X12_layReads (t := 173) rfl h
        simp (maxDischargeDepth := 12) -implicitDefEqProofs [vb_X12_layReads_0, vb_X12_layReads_7, vb_X12_layReads_33, vb_X12_layReads_35, vb_X12_layReads_78, vb_X12_layReads_79, vb_X12_layReads_101, vb_X12_layReads_107, vb_X12_layReads_145, vb_X12_layReads_165, vb_X12_layReads_171, vb_X12_layReads_173, vb_X12_layReads_227, vb_X12_layReads_228, vb_X12_layReads_238, xI_0, xI_1, xI_3, xI_6, xI_7, xI_8, xI_14, xI_34, xI_36, xI_38, xI_40, xI_46, xI_49, xI_50, xI_51, xI_52, xI_60, xI_61, xI_65, xw_X12_layReads_0, xw_X12_layReads_7, xw_X12_layReads_33, xw_X12_layReads_35, xw_X12_layReads_78, xw_X12_layReads_79, xw_X12_layReads_101, xw_X12_layReads_107, xw_X12_layReads_145, xw_X12_layReads_165, xw_X12_layReads_171, xw_X12_layReads_173, xw_X12_layReads_227, xw_X12_layReads_228, xw_X12_layReads_238, zw_lit, xB_c, xB_s, xB_n, i1_c, j2_c, k1_c, jJ_e, xlg, xls, xla, xpd, ppush, zw_m1, zw_m2, zw_m3, gf_12_0, gf_12_20, gf_12_22, gf_12_23, gf_12_24, gf_12_25, gf_12_26, pf_12_26, tg_12_0, tg_12_20, tg_12_22, tg_12_23, tg_12_24, tg_12_25, tg_12_26, gv_590_0, gv_590_20, gv_590_22, gv_590_23, gv_590_24, gv_590_25, gv_590_26, xD1, xD2, xD3, xD4, xD5, hA, t1, z0, z1, e3, e4] at h
        rcases h with ⟨q', h⟩ | ⟨_, h⟩
        · omega
        · rcases h with ⟨_, h⟩ | ⟨c', h⟩
          · exact go h
          · omega
set_option maxRecDepth 100000 in
theorem sp_X12_layReads (H : PH) (hB : MB (H 591)) (hL : ML (H 591)) : SPEC 207 [(2, 590)] H (fun r H' => r = none ∧ LRd (H 591) H' ∧ SCm [598, 599, 600, 601, 602, 603, 604, 605] [17, 18, 19, 26] H H') := by
  intro E n res h
  have h := call_runP 3 vm_X12_layReads h
  have h := xw_top (hd := [7, 35, 173]) 17 xD5_ok xc_X12_layReads xa_X12_layReads (t := 0) rfl h
  simp (maxDischargeDepth := 12) -implicitDefEqProofs [vb_X12_layReads_0, vb_X12_layReads_7, vb_X12_layReads_33, vb_X12_layReads_35, vb_X12_layReads_78, vb_X12_layReads_79, vb_X12_layReads_101, vb_X12_layReads_107, vb_X12_layReads_145, vb_X12_layReads_165, vb_X12_layReads_171, vb_X12_layReads_173, vb_X12_layReads_227, vb_X12_layReads_228, vb_X12_layReads_238, xI_0, xI_1, xI_3, xI_6, xI_7, xI_8, xI_14, xI_34, xI_36, xI_38, xI_40, xI_46, xI_49, xI_50, xI_51, xI_52, xI_60, xI_61, xI_65, xw_X12_layReads_0, xw_X12_layReads_7, xw_X12_layReads_33, xw_X12_layReads_35, xw_X12_layReads_78, xw_X12_layReads_79, xw_X12_layReads_101, xw_X12_layReads_107, xw_X12_layReads_145, xw_X12_layReads_165, xw_X12_layReads_171, xw_X12_layReads_173, xw_X12_layReads_227, xw_X12_layReads_228, xw_X12_layReads_238, zw_lit, xB_c, xB_s, xB_n, i1_c, j2_c, k1_c, jJ_e, xlg, xls, xla, xpd, ppush, zw_m1, zw_m2, zw_m3, gf_12_0, gf_12_20, gf_12_22, gf_12_23, gf_12_24, gf_12_25, gf_12_26, pf_12_26, tg_12_0, tg_12_20, tg_12_22, tg_12_23, tg_12_24, tg_12_25, tg_12_26, gv_590_0, gv_590_20, gv_590_22, gv_590_23, gv_590_24, gv_590_25, gv_590_26, xD1, xD2, xD3, xD4, xD5] at h
  obtain ⟨m, hm, h⟩ := h
  obtain ⟨H1, g1, g2, m1, hm1, g3⟩ := lp_lr0 m 0 0 _ (by omega) (by omega) (fun x x0 x1 => by omega) h
  have eA : H1 591 = H 591 := (g2.1 591 (by decide) (by decide)).trans (xp_ne (by decide))
  obtain ⟨H2, u, k1, k2, k3, k4, m2, hm2, k5⟩ := lp_lr1 (H 591) hB m1 0 0 (0, fun _ => 0, fun _ => 0, fun _ => 0) H1 (by omega) hB.2.2.1.1 eA ⟨Int.le_refl _, Int.le_refl _⟩ (fun h h0 (h1 : h < 0) => by omega) ⟨by rw [g2.2 26 (by decide), xp_at, if_pos rfl], fun h h0 (h1 : h < 0) => by omega, fun x x0 x1 => (g1 x x0 x1).1, fun x x0 x1 => (g1 x x0 x1).2⟩ (fun x x0 x1 => by omega) g3
  rw [Int.sub_zero] at k1 k2
  obtain ⟨H3, j1, j2, j3, j4⟩ := lp_lr2 (H 591) hB hL _ k2 m2 0 u H2 (by omega) (by omega) ((k4.1 591 (by decide) (by decide)).trans eA) k1 (fun x x0 x1 => by omega) k5
  refine ⟨none, H3, j4, rfl, ⟨j1, k2, fun x x0 x1 => ?_, j2⟩, ?_⟩
  · rw [j3.1 600 (by decide) (by decide)]
    exact k3 x x0 x1
  · exact SCm_trans (SCm_fld (by decide)) (SCm_trans (SCm_sub g2 (by decide) (by decide)) (SCm_trans (SCm_sub k4 (by decide) (by decide)) (SCm_sub j3 (by decide) (by decide))))
