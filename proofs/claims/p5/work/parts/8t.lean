theorem tlS_inN {A : Int → Int} {k N : Int} {t : tS} (hk : 0 ≤ k ∧ k < N) (h : 0 ≤ t.1) (hf : ∀ h, 0 ≤ h → h < t.1 → 0 ≤ t.2.1 h ∧ t.2.1 h < N) : ∀ h, 0 ≤ h → h < (tlS A k t).1 → 0 ≤ (tlS A k t).2.1 h ∧ (tlS A k t).2.1 h < N := by
  have e : ((tlS A k t).1, (tlS A k t).2.1) = tlH A k t := rfl
  unfold tlH at e
  split at e
  · have e1 : (tlS A k t).1 = t.1 + 1 := congrArg Prod.fst e
    have e2 : (tlS A k t).2.1 = xup t.2.1 t.1 k := congrArg Prod.snd e
    intro x x0 x1
    rw [e2]
    unfold xup
    split
    · exact hk
    · exact hf x x0 (by omega)
  · have e1 : (tlS A k t).1 = t.1 := congrArg (fun q : Int × (Int → Int) => q.1) e
    have e2 : (tlS A k t).2.1 = t.2.1 := congrArg (fun q : Int × (Int → Int) => q.2) e
    rw [e1, e2]
    exact hf
theorem rdM_l {A : Int → Int} {f : Int → Int} {k : Int} (h : ∀ x, 0 ≤ x → x < A 0 → f x = lapA A k x) : rdM f (A 0) (A 3) = rdL A k := by
  have e : rdM f (A 0) (A 3) = rdM (lapA A k) (A 0) (A 3) := by
    unfold rdM
    rw [rbF_eq (A 0).toNat 0 _ (fun x x0 x1 => h x x0 (by omega))]
  rw [e]
  exact rdM_A _ _
set_option maxRecDepth 100000 in
theorem sp_X9_count (k : Int) (A : Int → Int) (H : PH) (hB : MB A) (h3 : 0 ≤ A 3 ∧ A 3 ≤ 20) (hk : 0 ≤ k ∧ k < A 2) (ci : CI H A) (t : tS) (ht : 0 ≤ t.1 ∧ t.1 ≤ k) (hf : ∀ h, 0 ≤ h → h < t.1 → 0 ≤ t.2.1 h ∧ t.2.1 h < A 2) (hT : TC t H) (hR : ∀ x, 0 ≤ x → x < k → H 216 x = rdL A x) : SPEC 88 [(2, 215), (0, k)] H (fun r H' => r = none ∧ CI H' A ∧ TC (tlS A k t) H' ∧ (∀ x, 0 ≤ x → x < k + 1 → H' 216 x = rdL A x) ∧ TF H H') := by
  intro E n res h
  obtain ⟨hC, hG, hD⟩ := id ci
  have hA2 := hB.2.2.1
  have hA0 := hB.1
  obtain ⟨t1, t2, t3, t4⟩ := id hT
  obtain ⟨⟨a0, a1, a2, a3, _⟩, _⟩ := id hC
  have kq := hD.1 k hk.1 (by omega)
  obtain ⟨f5, f0, f1, f2, f3, f4, f6⟩ := KL_f kq
  obtain ⟨l0, l1, l2, l3, l4⟩ := KL_in kq
  have ln := hC.2.2.1 k hk.1 hk.2
  obtain ⟨r0, r1, r2, r3⟩ := rdL_in k (A := A) hA0.1
  obtain ⟨p0, p1⟩ := hpI_in (A := A) (k := k) ht.1
  have z5 : zw (12 + hpI A k t) = 12 + hpI A k t := zw_lit (by omega) (by omega)
  have h := call_runP 5 vm_X9_count h
  have h := xw_top (hd := []) 7 xD6_ok xc_X9_count xa_X9_count (t := 0) rfl h
  simp (maxDischargeDepth := 12) -implicitDefEqProofs [vb_X9_count_0, vb_X9_count_48, vb_X9_count_56, vb_X9_count_82, vb_X9_count_96, xI_0, xI_1, xI_3, xI_4, xI_8, xI_14, xI_34, xI_36, xI_38, xI_39, xI_49, xI_51, xI_52, xI_53, xI_61, xI_65, xw_X9_count_0, xw_X9_count_48, xw_X9_count_56, xw_X9_count_82, xw_X9_count_96, zw_lit, xB_c, xB_s, xB_n, i1_c, j2_c, k1_c, jJ_e, xlg, xls, xla, xpd, ppush, zw_m1, zw_m2, zw_m3, gf_1_3, gf_1_7, gf_5_0, gf_5_2, gf_9_0, gf_9_2, gf_9_5, gf_9_6, tg_1_3, tg_1_7, tg_5_0, tg_5_2, tg_9_0, tg_9_2, tg_9_5, tg_9_6, gv_1_3, gv_1_7, gv_215_0, gv_215_2, gv_215_5, gv_215_6, xD1, xD2, xD3, xD4, xD5, xD6, xb1_0, gv47] at h
  obtain ⟨r, H1, ⟨rfl, g1, g2, g3⟩, h⟩ := xc_use h (sp_X1_gapsOf k A H hB hk hC kq hG)
  have ci1 := CI_gaps hB ci hk g1 g2 g3
  have tf1 := TF_g ⟨hk.1, by rw [← hC.1.2.2.1]; exact hk.2⟩ rfl kq g1
  have e1 : H1 1 = H 1 := g1.1 1 (by decide) (by decide) (by omega) (by omega)
  have e215 : H1 215 4 = t.1 := by rw [g1.1 215 (by decide) (by decide) (by omega) (by omega)]; exact t1
  have e217 : H1 217 = H 217 := g1.1 217 (by decide) (by decide) (by omega) (by omega)
  have e218 : H1 218 = H 218 := g1.1 218 (by decide) (by decide) (by omega) (by omega)
  have e219 : H1 219 = H 219 := g1.1 219 (by decide) (by decide) (by omega) (by omega)
  have e216 : H1 216 = H 216 := g1.1 216 (by decide) (by decide) (by omega) (by omega)
  have eq0 : H1 (H 47 k) 0 = A (404 + 12 * k) := (g1.2 0 (by decide)).trans ln.1.symm
  have eq2 : H1 (H 47 k) 2 = A (404 + 12 * k + 2) := (g1.2 2 (by decide)).trans ln.2.2.1.symm
  have n216 : ¬ H 47 k = 216 := by omega
  have n217 : ¬ H 47 k = 217 := by omega
  have n215 : ¬ H 47 k = 215 := by omega
  simp (maxDischargeDepth := 12) -implicitDefEqProofs [vb_X9_count_0, vb_X9_count_48, vb_X9_count_56, vb_X9_count_82, vb_X9_count_96, xI_0, xI_1, xI_3, xI_4, xI_8, xI_14, xI_34, xI_36, xI_38, xI_39, xI_49, xI_51, xI_52, xI_53, xI_61, xI_65, xw_X9_count_0, xw_X9_count_48, xw_X9_count_56, xw_X9_count_82, xw_X9_count_96, zw_lit, xB_c, xB_s, xB_n, i1_c, j2_c, k1_c, jJ_e, xlg, xls, xla, xpd, ppush, zw_m1, zw_m2, zw_m3, gf_1_3, gf_1_7, gf_5_0, gf_5_2, gf_9_0, gf_9_2, gf_9_5, gf_9_6, tg_1_3, tg_1_7, tg_5_0, tg_5_2, tg_9_0, tg_9_2, tg_9_5, tg_9_6, gv_1_3, gv_1_7, gv_215_0, gv_215_2, gv_215_5, gv_215_6, xD1, xD2, xD3, xD4, xD5, xD6, xb1_0, e1, ← a3] at h
  obtain ⟨r, H2, ⟨rfl, eH2⟩, h2⟩ := xc_use h (sp_X1_readBy (H 47 k + 1) (A 3) H1 (by omega) (by rw [e1, ← a0]; exact hA0) (by omega))
  rw [eH2, e1, ← a0, rdM_l g3] at h2
  have r216 : ∀ x, 0 ≤ x → x < k + 1 → pup H1 216 k (rdL A k) 216 x = rdL A x := fun x x0 x1 => by
    rw [xp_at, e216]
    split
    · rename_i e
      rw [e]
    · exact hR x x0 (by omega)
  by_cases c : rdL A k < 0
  · simp (maxDischargeDepth := 12) -implicitDefEqProofs [vb_X9_count_0, vb_X9_count_48, vb_X9_count_56, vb_X9_count_82, vb_X9_count_96, xI_0, xI_1, xI_3, xI_4, xI_8, xI_14, xI_34, xI_36, xI_38, xI_39, xI_49, xI_51, xI_52, xI_53, xI_61, xI_65, xw_X9_count_0, xw_X9_count_48, xw_X9_count_56, xw_X9_count_82, xw_X9_count_96, zw_lit, xB_c, xB_s, xB_n, i1_c, j2_c, k1_c, jJ_e, xlg, xls, xla, xpd, ppush, zw_m1, zw_m2, zw_m3, gf_1_3, gf_1_7, gf_5_0, gf_5_2, gf_9_0, gf_9_2, gf_9_5, gf_9_6, tg_1_3, tg_1_7, tg_5_0, tg_5_2, tg_9_0, tg_9_2, tg_9_5, tg_9_6, gv_1_3, gv_1_7, gv_215_0, gv_215_2, gv_215_5, gv_215_6, xD1, xD2, xD3, xD4, xD5, xD6, xb1_0, f0, f2, xp_ne, xp_at, n216] at h2
    rcases h2 with ⟨_, h2⟩ | ⟨c', h2⟩
    · have ci2 : CI (pup H1 216 k (rdL A k)) A := CI_Z hB ci1 (fun c hc => xp_ne (by omega))
      obtain ⟨r, H3, ⟨rfl, hH3⟩, h⟩ := xc_use h2 (sp_X9_heapOf k A (pup H1 216 k (rdL A k)) hB hk ci2.1 ci2.2.2 t ⟨ht.1, by omega⟩ hf (by rw [xp_ne (by decide)]; exact e215) (fun x x0 x1 => by rw [xp_ne (by decide), e217]; exact t2 x x0 x1))
      have eI : tlI A k t = 12 + hpI A k t := if_pos c
      by_cases d : hpI A k t = t.1
      · rw [if_pos d] at hH3
        have eH : tlH A k t = (t.1 + 1, xup t.2.1 t.1 k) := if_pos ⟨c, d⟩
        rw [hH3] at h
        simp (maxDischargeDepth := 12) -implicitDefEqProofs [vb_X9_count_0, vb_X9_count_48, vb_X9_count_56, vb_X9_count_82, vb_X9_count_96, xI_0, xI_1, xI_3, xI_4, xI_8, xI_14, xI_34, xI_36, xI_38, xI_39, xI_49, xI_51, xI_52, xI_53, xI_61, xI_65, xw_X9_count_0, xw_X9_count_48, xw_X9_count_56, xw_X9_count_82, xw_X9_count_96, zw_lit, xB_c, xB_s, xB_n, i1_c, j2_c, k1_c, jJ_e, xlg, xls, xla, xpd, ppush, zw_m1, zw_m2, zw_m3, gf_1_3, gf_1_7, gf_5_0, gf_5_2, gf_9_0, gf_9_2, gf_9_5, gf_9_6, tg_1_3, tg_1_7, tg_5_0, tg_5_2, tg_9_0, tg_9_2, tg_9_5, tg_9_6, gv_1_3, gv_1_7, gv_215_0, gv_215_2, gv_215_5, gv_215_6, xD1, xD2, xD3, xD4, xD5, xD6, xb1_0, f0, f2, xp_ne, xp_at, n216, n217, n215, eq0, eq2, z5] at h
        rcases h with ⟨c0, h⟩ | ⟨c0, h⟩
        · refine ⟨none, _, h, rfl, CI_Z hB ci1 (fun c hc => ?_), ⟨?_, ?_, ?_, ?_⟩, fun x x0 x1 => ?_, TF_trans tf1 (TF_trans (TF_up (by decide)) (TF_trans (TF_up (by decide)) (TF_trans TF_fd (TF_up (by decide)))))⟩
          · simp only [xp_ne (show ¬ c = 216 by omega), xp_ne (show ¬ c = 217 by omega), xp_ne (show ¬ c = 215 by omega), xp_ne (show ¬ c = 218 by omega), xp_ne (show ¬ c = 219 by omega)]
          · show _ = (tlH A k t).1
            rw [eH]
            simp [xp_ne, xp_at, e215]
          · intro x x0 (x1 : x < (tlH A k t).1)
            show _ = (tlH A k t).2 x
            rw [eH] at x1 ⊢
            have x1 : x < t.1 + 1 := x1
            by_cases e : x = t.1
            · simp [xp_ne, xp_at, xup, e]
            · simp [xp_ne, xp_at, xup, e, e217]
              exact t2 x x0 (by omega)
          · intro x x0 x1
            show _ = (if A (404 + 12 * k) = 0 then xup t.2.2.1 (tlI A k t) (zw (t.2.2.1 (tlI A k t) + A (404 + 12 * k + 2))) else t.2.2.1) x
            rw [eI]
            simp [xp_ne, c0, e218]
            exact t3 x x0 x1
          · intro x x0 x1
            show _ = (if A (404 + 12 * k) = 0 then t.2.2.2 else xup t.2.2.2 (tlI A k t) (zw (t.2.2.2 (tlI A k t) + A (404 + 12 * k + 2)))) x
            rw [eI]
            by_cases e : x = 12 + hpI A k t
            · simp [xp_ne, xp_at, xup, e, c0, e219]
              rw [t4 (12 + hpI A k t) (by omega) (by omega)]
            · simp [xp_ne, xp_at, xup, e, c0, e219]
              exact t4 x x0 x1
          · have := r216 x x0 x1
            simpa [xp_ne] using this
        · refine ⟨none, _, h, rfl, CI_Z hB ci1 (fun c hc => ?_), ⟨?_, ?_, ?_, ?_⟩, fun x x0 x1 => ?_, TF_trans tf1 (TF_trans (TF_up (by decide)) (TF_trans (TF_up (by decide)) (TF_trans TF_fd (TF_up (by decide)))))⟩
          · simp only [xp_ne (show ¬ c = 216 by omega), xp_ne (show ¬ c = 217 by omega), xp_ne (show ¬ c = 215 by omega), xp_ne (show ¬ c = 218 by omega), xp_ne (show ¬ c = 219 by omega)]
          · show _ = (tlH A k t).1
            rw [eH]
            simp [xp_ne, xp_at, e215]
          · intro x x0 (x1 : x < (tlH A k t).1)
            show _ = (tlH A k t).2 x
            rw [eH] at x1 ⊢
            have x1 : x < t.1 + 1 := x1
            by_cases e : x = t.1
            · simp [xp_ne, xp_at, xup, e]
            · simp [xp_ne, xp_at, xup, e, e217]
              exact t2 x x0 (by omega)
          · intro x x0 x1
            show _ = (if A (404 + 12 * k) = 0 then xup t.2.2.1 (tlI A k t) (zw (t.2.2.1 (tlI A k t) + A (404 + 12 * k + 2))) else t.2.2.1) x
            rw [eI]
            by_cases e : x = 12 + hpI A k t
            · simp [xp_ne, xp_at, xup, e, c0, e218]
              rw [t3 (12 + hpI A k t) (by omega) (by omega)]
            · simp [xp_ne, xp_at, xup, e, c0, e218]
              exact t3 x x0 x1
          · intro x x0 x1
            show _ = (if A (404 + 12 * k) = 0 then t.2.2.2 else xup t.2.2.2 (tlI A k t) (zw (t.2.2.2 (tlI A k t) + A (404 + 12 * k + 2)))) x
            rw [eI]
            simp [xp_ne, c0, e219]
            exact t4 x x0 x1
          · have := r216 x x0 x1
            simpa [xp_ne] using this
      · rw [if_neg d] at hH3
        have eH : tlH A k t = (t.1, t.2.1) := if_neg (fun q => d q.2)
        rw [hH3] at h
        simp (maxDischargeDepth := 12) -implicitDefEqProofs [vb_X9_count_0, vb_X9_count_48, vb_X9_count_56, vb_X9_count_82, vb_X9_count_96, xI_0, xI_1, xI_3, xI_4, xI_8, xI_14, xI_34, xI_36, xI_38, xI_39, xI_49, xI_51, xI_52, xI_53, xI_61, xI_65, xw_X9_count_0, xw_X9_count_48, xw_X9_count_56, xw_X9_count_82, xw_X9_count_96, zw_lit, xB_c, xB_s, xB_n, i1_c, j2_c, k1_c, jJ_e, xlg, xls, xla, xpd, ppush, zw_m1, zw_m2, zw_m3, gf_1_3, gf_1_7, gf_5_0, gf_5_2, gf_9_0, gf_9_2, gf_9_5, gf_9_6, tg_1_3, tg_1_7, tg_5_0, tg_5_2, tg_9_0, tg_9_2, tg_9_5, tg_9_6, gv_1_3, gv_1_7, gv_215_0, gv_215_2, gv_215_5, gv_215_6, xD1, xD2, xD3, xD4, xD5, xD6, xb1_0, f0, f2, xp_ne, xp_at, n216, eq0, eq2, z5] at h
        rcases h with ⟨c0, h⟩ | ⟨c0, h⟩
        · refine ⟨none, _, h, rfl, CI_Z hB ci1 (fun c hc => ?_), ⟨?_, ?_, ?_, ?_⟩, fun x x0 x1 => ?_, TF_trans tf1 (TF_trans (TF_up (by decide)) (TF_up (by decide)))⟩
          · simp only [xp_ne (show ¬ c = 216 by omega), xp_ne (show ¬ c = 217 by omega), xp_ne (show ¬ c = 215 by omega), xp_ne (show ¬ c = 218 by omega), xp_ne (show ¬ c = 219 by omega)]
          · show _ = (tlH A k t).1
            rw [eH]
            simp [xp_ne, xp_at, e215]
          · intro x x0 (x1 : x < (tlH A k t).1)
            show _ = (tlH A k t).2 x
            rw [eH] at x1 ⊢
            simp [xp_ne, e217]
            exact t2 x x0 x1
          · intro x x0 x1
            show _ = (if A (404 + 12 * k) = 0 then xup t.2.2.1 (tlI A k t) (zw (t.2.2.1 (tlI A k t) + A (404 + 12 * k + 2))) else t.2.2.1) x
            rw [eI]
            simp [xp_ne, c0, e218]
            exact t3 x x0 x1
          · intro x x0 x1
            show _ = (if A (404 + 12 * k) = 0 then t.2.2.2 else xup t.2.2.2 (tlI A k t) (zw (t.2.2.2 (tlI A k t) + A (404 + 12 * k + 2)))) x
            rw [eI]
            by_cases e : x = 12 + hpI A k t
            · simp [xp_ne, xp_at, xup, e, c0, e219]
              rw [t4 (12 + hpI A k t) (by omega) (by omega)]
            · simp [xp_ne, xp_at, xup, e, c0, e219]
              exact t4 x x0 x1
          · have := r216 x x0 x1
            simpa [xp_ne] using this
        · refine ⟨none, _, h, rfl, CI_Z hB ci1 (fun c hc => ?_), ⟨?_, ?_, ?_, ?_⟩, fun x x0 x1 => ?_, TF_trans tf1 (TF_trans (TF_up (by decide)) (TF_up (by decide)))⟩
          · simp only [xp_ne (show ¬ c = 216 by omega), xp_ne (show ¬ c = 217 by omega), xp_ne (show ¬ c = 215 by omega), xp_ne (show ¬ c = 218 by omega), xp_ne (show ¬ c = 219 by omega)]
          · show _ = (tlH A k t).1
            rw [eH]
            simp [xp_ne, xp_at, e215]
          · intro x x0 (x1 : x < (tlH A k t).1)
            show _ = (tlH A k t).2 x
            rw [eH] at x1 ⊢
            simp [xp_ne, e217]
            exact t2 x x0 x1
          · intro x x0 x1
            show _ = (if A (404 + 12 * k) = 0 then xup t.2.2.1 (tlI A k t) (zw (t.2.2.1 (tlI A k t) + A (404 + 12 * k + 2))) else t.2.2.1) x
            rw [eI]
            by_cases e : x = 12 + hpI A k t
            · simp [xp_ne, xp_at, xup, e, c0, e218]
              rw [t3 (12 + hpI A k t) (by omega) (by omega)]
            · simp [xp_ne, xp_at, xup, e, c0, e218]
              exact t3 x x0 x1
          · intro x x0 x1
            show _ = (if A (404 + 12 * k) = 0 then t.2.2.2 else xup t.2.2.2 (tlI A k t) (zw (t.2.2.2 (tlI A k t) + A (404 + 12 * k + 2)))) x
            rw [eI]
            simp [xp_ne, c0, e219]
            exact t4 x x0 x1
          · have := r216 x x0 x1
            simpa [xp_ne] using this
    · omega
  · have eI : tlI A k t = rdL A k := if_neg c
    have eH : tlH A k t = (t.1, t.2.1) := if_neg (fun q => c q.1)
    simp (maxDischargeDepth := 12) -implicitDefEqProofs [vb_X9_count_0, vb_X9_count_48, vb_X9_count_56, vb_X9_count_82, vb_X9_count_96, xI_0, xI_1, xI_3, xI_4, xI_8, xI_14, xI_34, xI_36, xI_38, xI_39, xI_49, xI_51, xI_52, xI_53, xI_61, xI_65, xw_X9_count_0, xw_X9_count_48, xw_X9_count_56, xw_X9_count_82, xw_X9_count_96, zw_lit, xB_c, xB_s, xB_n, i1_c, j2_c, k1_c, jJ_e, xlg, xls, xla, xpd, ppush, zw_m1, zw_m2, zw_m3, gf_1_3, gf_1_7, gf_5_0, gf_5_2, gf_9_0, gf_9_2, gf_9_5, gf_9_6, tg_1_3, tg_1_7, tg_5_0, tg_5_2, tg_9_0, tg_9_2, tg_9_5, tg_9_6, gv_1_3, gv_1_7, gv_215_0, gv_215_2, gv_215_5, gv_215_6, xD1, xD2, xD3, xD4, xD5, xD6, xb1_0, f0, f2, xp_ne, xp_at, n216, eq0, eq2] at h2
    rcases h2 with ⟨c', h2⟩ | ⟨_, h⟩
    · omega
    · rcases h with ⟨c0, h⟩ | ⟨c0, h⟩
      · refine ⟨none, _, h, rfl, CI_Z hB ci1 (fun c hc => ?_), ⟨?_, ?_, ?_, ?_⟩, fun x x0 x1 => ?_, TF_trans tf1 (TF_trans (TF_up (by decide)) (TF_up (by decide)))⟩
        · simp only [xp_ne (show ¬ c = 216 by omega), xp_ne (show ¬ c = 217 by omega), xp_ne (show ¬ c = 215 by omega), xp_ne (show ¬ c = 218 by omega), xp_ne (show ¬ c = 219 by omega)]
        · show _ = (tlH A k t).1
          rw [eH]
          simp [xp_ne, xp_at, e215]
        · intro x x0 (x1 : x < (tlH A k t).1)
          show _ = (tlH A k t).2 x
          rw [eH] at x1 ⊢
          simp [xp_ne, e217]
          exact t2 x x0 x1
        · intro x x0 x1
          show _ = (if A (404 + 12 * k) = 0 then xup t.2.2.1 (tlI A k t) (zw (t.2.2.1 (tlI A k t) + A (404 + 12 * k + 2))) else t.2.2.1) x
          rw [eI]
          simp [xp_ne, c0, e218]
          exact t3 x x0 x1
        · intro x x0 x1
          show _ = (if A (404 + 12 * k) = 0 then t.2.2.2 else xup t.2.2.2 (tlI A k t) (zw (t.2.2.2 (tlI A k t) + A (404 + 12 * k + 2)))) x
          rw [eI]
          by_cases e : x = rdL A k
          · simp [xp_ne, xp_at, xup, e, c0, e219]
            rw [t4 (rdL A k) (by omega) (by omega)]
          · simp [xp_ne, xp_at, xup, e, c0, e219]
            exact t4 x x0 x1
        · have := r216 x x0 x1
          simpa [xp_ne] using this
      · refine ⟨none, _, h, rfl, CI_Z hB ci1 (fun c hc => ?_), ⟨?_, ?_, ?_, ?_⟩, fun x x0 x1 => ?_, TF_trans tf1 (TF_trans (TF_up (by decide)) (TF_up (by decide)))⟩
        · simp only [xp_ne (show ¬ c = 216 by omega), xp_ne (show ¬ c = 217 by omega), xp_ne (show ¬ c = 215 by omega), xp_ne (show ¬ c = 218 by omega), xp_ne (show ¬ c = 219 by omega)]
        · show _ = (tlH A k t).1
          rw [eH]
          simp [xp_ne, xp_at, e215]
        · intro x x0 (x1 : x < (tlH A k t).1)
          show _ = (tlH A k t).2 x
          rw [eH] at x1 ⊢
          simp [xp_ne, e217]
          exact t2 x x0 x1
        · intro x x0 x1
          show _ = (if A (404 + 12 * k) = 0 then xup t.2.2.1 (tlI A k t) (zw (t.2.2.1 (tlI A k t) + A (404 + 12 * k + 2))) else t.2.2.1) x
          rw [eI]
          by_cases e : x = rdL A k
          · simp [xp_ne, xp_at, xup, e, c0, e218]
            rw [t3 (rdL A k) (by omega) (by omega)]
          · simp [xp_ne, xp_at, xup, e, c0, e218]
            exact t3 x x0 x1
        · intro x x0 x1
          show _ = (if A (404 + 12 * k) = 0 then t.2.2.2 else xup t.2.2.2 (tlI A k t) (zw (t.2.2.2 (tlI A k t) + A (404 + 12 * k + 2)))) x
          rw [eI]
          simp [xp_ne, c0, e219]
          exact t4 x x0 x1
        · have := r216 x x0 x1
          simpa [xp_ne] using this
