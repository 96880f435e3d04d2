/-- what the rows of the model hold of this -/
def TM (A : Int → Int) (t : tS) (H : PH) : Prop := H 590 26 = t.1 ∧ (∀ h, 0 ≤ h → h < t.1 → H 601 h = t.2.1 h) ∧ (∀ x, 0 ≤ x → x < 72 → H 603 x = t.2.2.1 x) ∧ (∀ x, 0 ≤ x → x < 72 → H 604 x = t.2.2.2 x)
theorem tlS_in {A : Int → Int} {k : Int} {t : tS} (hk : 0 ≤ k ∧ k < 60) (h : 0 ≤ t.1 ∧ t.1 ≤ k) (hf : ∀ h, 0 ≤ h → h < t.1 → 0 ≤ t.2.1 h ∧ t.2.1 h < 60) : (0 ≤ (tlS A k t).1 ∧ (tlS A k t).1 ≤ k + 1) ∧ ∀ h, 0 ≤ h → h < (tlS A k t).1 → 0 ≤ (tlS A k t).2.1 h ∧ (tlS A k t).2.1 h < 60 := by
  have e : ((tlS A k t).1, (tlS A k t).2.1) = tlH A k t := rfl
  unfold tlH at e
  split at e
  · have e1 : (tlS A k t).1 = t.1 + 1 := congrArg Prod.fst e
    have e2 : (tlS A k t).2.1 = xup t.2.1 t.1 k := congrArg Prod.snd e
    refine ⟨by omega, fun x x0 x1 => ?_⟩
    rw [e2]
    unfold xup
    split
    · exact hk
    · exact hf x x0 (by omega)
  · have e1 : (tlS A k t).1 = t.1 := congrArg (fun q : Int × (Int → Int) => q.1) e
    have e2 : (tlS A k t).2.1 = t.2.1 := congrArg (fun q : Int × (Int → Int) => q.2) e
    rw [e1, e2]
    exact ⟨by omega, hf⟩
set_option maxRecDepth 100000 in
theorem lp_lr0 {E : xE} {res : xR} : ∀ (n : Nat) (i v : Int) (H : PH), 0 ≤ i → i ≤ 72 → (∀ x, 0 ≤ x → x < i → H 603 x = 0 ∧ H 604 x = 0) → RUN E res n kd_X12_layReads (zget kd_X12_layReads 7) 7 [590, i, v] [] H → ∃ H' : PH, (∀ x, 0 ≤ x → x < 72 → H' 603 x = 0 ∧ H' 604 x = 0) ∧ SCm [603, 604] [] H H' ∧ xJ E res n kd_X12_layReads 35 [590, 0, v] [] H' := by
  intro n
  induction n using Nat.strongRecOn with
  | _ n ih =>
    intro i v H hi0 hi1 hz h
    have z1 : zw (i + 1) = i + 1 := zw_lit (by omega) (by omega)
    have h := xw_top (hd := [7, 35]) 17 xD5_ok xc_X12_layReads xa_X12_layReads (t := 7) rfl h
    simp (maxDischargeDepth := 12) -implicitDefEqProofs [vb_X12_layReads_0, vb_X12_layReads_7, vb_X12_layReads_33, vb_X12_layReads_35, vb_X12_layReads_78, vb_X12_layReads_79, vb_X12_layReads_101, vb_X12_layReads_107, vb_X12_layReads_145, vb_X12_layReads_165, vb_X12_layReads_171, vb_X12_layReads_173, vb_X12_layReads_227, vb_X12_layReads_228, vb_X12_layReads_238, xI_0, xI_1, xI_3, xI_6, xI_7, xI_8, xI_14, xI_34, xI_36, xI_38, xI_40, xI_46, xI_49, xI_50, xI_51, xI_52, xI_60, xI_61, xI_65, xw_X12_layReads_0, xw_X12_layReads_7, xw_X12_layReads_33, xw_X12_layReads_35, xw_X12_layReads_78, xw_X12_layReads_79, xw_X12_layReads_101, xw_X12_layReads_107, xw_X12_layReads_145, xw_X12_layReads_165, xw_X12_layReads_171, xw_X12_layReads_173, xw_X12_layReads_227, xw_X12_layReads_228, xw_X12_layReads_238, zw_lit, xB_c, xB_s, xB_n, i1_c, j2_c, k1_c, jJ_e, xlg, xls, xla, xpd, ppush, zw_m1, zw_m2, zw_m3, gf_12_0, gf_12_20, gf_12_22, gf_12_23, gf_12_24, gf_12_25, gf_12_26, pf_12_26, tg_12_0, tg_12_20, tg_12_22, tg_12_23, tg_12_24, tg_12_25, tg_12_26, gv_590_0, gv_590_20, gv_590_22, gv_590_23, gv_590_24, gv_590_25, gv_590_26, xD1, xD2, xD3, xD4, xD5, z1] at h
    rcases h with ⟨q, h⟩ | ⟨q, m, hm, h⟩
    · exact ⟨H, fun x x0 x1 => hz x x0 (by omega), SCm_refl, h⟩
    · obtain ⟨H', g1, g2, g3⟩ := ih m hm (i + 1) v _ (by omega) (by omega) (fun x x0 x1 => by
        have := hz x x0
        rw [xp_ne (by decide), xp_at, xp_at, xp_ne (by decide)]
        split
        · exact ⟨rfl, rfl⟩
        · exact this (by omega)) h
      exact ⟨H', g1, SCm_trans (SCm_trans (SCm_cell (by decide) (by decide)) (SCm_cell (by decide) (by decide))) g2, xJ_up g3 (by omega)⟩
set_option maxRecDepth 100000 in
theorem lp_lr1 (A : Int → Int) (hB : MB A) {E : xE} {res : xR} : ∀ (n : Nat) (k v : Int) (t : tS) (H : PH), 0 ≤ k → k ≤ A 2 → H 591 = A → (0 ≤ t.1 ∧ t.1 ≤ k) → (∀ h, 0 ≤ h → h < t.1 → 0 ≤ t.2.1 h ∧ t.2.1 h < 60) → TM A t H → (∀ x, 0 ≤ x → x < k → H 600 x = rdL A x) → RUN E res n kd_X12_layReads (zget kd_X12_layReads 35) 35 [590, k, v] [] H → ∃ (H' : PH) (u : Int), TM A (tlF A (A 2 - k).toNat k t) H' ∧ (0 ≤ (tlF A (A 2 - k).toNat k t).1 ∧ (tlF A (A 2 - k).toNat k t).1 ≤ 60) ∧ (∀ x, 0 ≤ x → x < A 2 → H' 600 x = rdL A x) ∧ SCm [599, 600, 601, 602, 603, 604] [17, 18, 19, 26] H H' ∧ xJ E res n kd_X12_layReads 173 [590, 0, u] [] H' := by
  obtain ⟨k0, k1, k2, k3, k4, k5, k6⟩ := id hB
  intro n
  induction n using Nat.strongRecOn with
  | _ n ih =>
    intro k v t H hk0 hk1 hA ht hf hT hR h
    by_cases q : A 2 ≤ k
    · have h := xw_top (hd := [35, 173]) 17 xD5_ok xc_X12_layReads xa_X12_layReads (t := 35) rfl h
      simp (maxDischargeDepth := 12) -implicitDefEqProofs [vb_X12_layReads_0, vb_X12_layReads_7, vb_X12_layReads_33, vb_X12_layReads_35, vb_X12_layReads_78, vb_X12_layReads_79, vb_X12_layReads_101, vb_X12_layReads_107, vb_X12_layReads_145, vb_X12_layReads_165, vb_X12_layReads_171, vb_X12_layReads_173, vb_X12_layReads_227, vb_X12_layReads_228, vb_X12_layReads_238, xI_0, xI_1, xI_3, xI_6, xI_7, xI_8, xI_14, xI_34, xI_36, xI_38, xI_40, xI_46, xI_49, xI_50, xI_51, xI_52, xI_60, xI_61, xI_65, xw_X12_layReads_0, xw_X12_layReads_7, xw_X12_layReads_33, xw_X12_layReads_35, xw_X12_layReads_78, xw_X12_layReads_79, xw_X12_layReads_101, xw_X12_layReads_107, xw_X12_layReads_145, xw_X12_layReads_165, xw_X12_layReads_171, xw_X12_layReads_173, xw_X12_layReads_227, xw_X12_layReads_228, xw_X12_layReads_238, zw_lit, xB_c, xB_s, xB_n, i1_c, j2_c, k1_c, jJ_e, xlg, xls, xla, xpd, ppush, zw_m1, zw_m2, zw_m3, gf_12_0, gf_12_20, gf_12_22, gf_12_23, gf_12_24, gf_12_25, gf_12_26, pf_12_26, tg_12_0, tg_12_20, tg_12_22, tg_12_23, tg_12_24, tg_12_25, tg_12_26, gv_590_0, gv_590_20, gv_590_22, gv_590_23, gv_590_24, gv_590_25, gv_590_26, xD1, xD2, xD3, xD4, xD5, hA] at h
      rcases h with ⟨_, h⟩ | ⟨q', h⟩
      · rw [show (A 2 - k).toNat = 0 by omega]
        exact ⟨H, _, hT, ⟨ht.1, by show t.1 ≤ 60; omega⟩, fun x x0 x1 => hR x x0 (by omega), SCm_refl, h⟩
      · omega
    · obtain ⟨t1, t2, t3, t4⟩ := hT
      have z1 : zw (k + 1) = k + 1 := zw_lit (by omega) (by omega)
      have z2 : zw (12 * k) = 12 * k := zw_lit (by omega) (by omega)
      have z3 : zw (404 + 12 * k) = 404 + 12 * k := zw_lit (by omega) (by omega)
      have z4 : zw (404 + 12 * k + 2) = 404 + 12 * k + 2 := zw_lit (by omega) (by omega)
      obtain ⟨r0, r1, r2, r3⟩ := rdL_in k (A := A) k0.1
      obtain ⟨p0, p1⟩ := hpI_in (A := A) (k := k) ht.1
      have z5 : zw (12 + hpI A k t) = 12 + hpI A k t := zw_lit (by omega) (by omega)
      obtain ⟨i1, i2⟩ := tlS_in (A := A) (k := k) ⟨hk0, by omega⟩ ht hf
      have h := xw_top (hd := [35, 173]) 17 xD5_ok xc_X12_layReads xa_X12_layReads (t := 35) rfl h
      simp (maxDischargeDepth := 12) -implicitDefEqProofs [vb_X12_layReads_0, vb_X12_layReads_7, vb_X12_layReads_33, vb_X12_layReads_35, vb_X12_layReads_78, vb_X12_layReads_79, vb_X12_layReads_101, vb_X12_layReads_107, vb_X12_layReads_145, vb_X12_layReads_165, vb_X12_layReads_171, vb_X12_layReads_173, vb_X12_layReads_227, vb_X12_layReads_228, vb_X12_layReads_238, xI_0, xI_1, xI_3, xI_6, xI_7, xI_8, xI_14, xI_34, xI_36, xI_38, xI_40, xI_46, xI_49, xI_50, xI_51, xI_52, xI_60, xI_61, xI_65, xw_X12_layReads_0, xw_X12_layReads_7, xw_X12_layReads_33, xw_X12_layReads_35, xw_X12_layReads_78, xw_X12_layReads_79, xw_X12_layReads_101, xw_X12_layReads_107, xw_X12_layReads_145, xw_X12_layReads_165, xw_X12_layReads_171, xw_X12_layReads_173, xw_X12_layReads_227, xw_X12_layReads_228, xw_X12_layReads_238, zw_lit, xB_c, xB_s, xB_n, i1_c, j2_c, k1_c, jJ_e, xlg, xls, xla, xpd, ppush, zw_m1, zw_m2, zw_m3, gf_12_0, gf_12_20, gf_12_22, gf_12_23, gf_12_24, gf_12_25, gf_12_26, pf_12_26, tg_12_0, tg_12_20, tg_12_22, tg_12_23, tg_12_24, tg_12_25, tg_12_26, gv_590_0, gv_590_20, gv_590_22, gv_590_23, gv_590_24, gv_590_25, gv_590_26, xD1, xD2, xD3, xD4, xD5, hA] at h
      rcases h with ⟨q', h⟩ | ⟨_, h⟩
      · omega
      · obtain ⟨r, H1, ⟨rfl, sc⟩, h⟩ := xc_use h (sp_X12_lineRead k H (by rw [hA]; exact hB) ⟨hk0, by omega⟩)
        rw [hA] at h
        have e590 : ∀ i, ¬ i ∈ [17, 18, 19] → H1 590 i = H 590 i := sc.2
        have eA : H1 591 = A := (sc.1 591 (by decide) (by decide)).trans hA
        have e26 : H1 590 26 = t.1 := (sc.2 26 (by decide)).trans t1
        have e601 : H1 601 = H 601 := sc.1 601 (by decide) (by decide)
        have e603 : H1 603 = H 603 := sc.1 603 (by decide) (by decide)
        have e604 : H1 604 = H 604 := sc.1 604 (by decide) (by decide)
        have e600 : H1 600 = H 600 := sc.1 600 (by decide) (by decide)
        rw [show (A 2 - k).toNat = (A 2 - (k + 1)).toNat + 1 by omega]
        unfold tlF
        have sc1 : SCm [599, 600, 601, 602, 603, 604] [17, 18, 19, 26] H (pup H1 600 k (rdL A k)) := SCm_trans (SCm_sub sc (by decide) (by decide)) (SCm_cell (by decide) (by decide))
        have nxt : ∀ (H3 : PH) (y : Int), H3 591 = A → TM A (tlS A k t) H3 → (∀ x, 0 ≤ x → x < k + 1 → H3 600 x = rdL A x) → SCm [599, 600, 601, 602, 603, 604] [17, 18, 19, 26] H H3 → xJ E res n kd_X12_layReads 35 [590, k + 1, y] [] H3 → ∃ (H' : PH) (u : Int), TM A (tlF A (A 2 - (k + 1)).toNat (k + 1) (tlS A k t)) H' ∧ (0 ≤ (tlF A (A 2 - (k + 1)).toNat (k + 1) (tlS A k t)).1 ∧ (tlF A (A 2 - (k + 1)).toNat (k + 1) (tlS A k t)).1 ≤ 60) ∧ (∀ x, 0 ≤ x → x < A 2 → H' 600 x = rdL A x) ∧ SCm [599, 600, 601, 602, 603, 604] [17, 18, 19, 26] H H' ∧ xJ E res n kd_X12_layReads 173 [590, 0, u] [] H' := by
          rintro H3 y a1 a2 a3 a4 ⟨m, hm, a5⟩
          obtain ⟨H', u, g1, g2, g3, g4, g5⟩ := ih m hm (k + 1) y _ H3 (by omega) (by omega) a1 i1 i2 a2 a3 a5
          exact ⟨H', u, g1, g2, g3, SCm_trans a4 g4, xJ_up g5 (by omega)⟩
        have r600 : ∀ x, 0 ≤ x → x < k + 1 → pup H1 600 k (rdL A k) 600 x = rdL A x := fun x x0 x1 => by
          rw [xp_at, e600]
          split
          · rename_i e
            rw [e]
          · exact hR x x0 (by omega)
        by_cases c : rdL A k < 0
        · simp (maxDischargeDepth := 12) -implicitDefEqProofs [vb_X12_layReads_0, vb_X12_layReads_7, vb_X12_layReads_33, vb_X12_layReads_35, vb_X12_layReads_78, vb_X12_layReads_79, vb_X12_layReads_101, vb_X12_layReads_107, vb_X12_layReads_145, vb_X12_layReads_165, vb_X12_layReads_171, vb_X12_layReads_173, vb_X12_layReads_227, vb_X12_layReads_228, vb_X12_layReads_238, xI_0, xI_1, xI_3, xI_6, xI_7, xI_8, xI_14, xI_34, xI_36, xI_38, xI_40, xI_46, xI_49, xI_50, xI_51, xI_52, xI_60, xI_61, xI_65, xw_X12_layReads_0, xw_X12_layReads_7, xw_X12_layReads_33, xw_X12_layReads_35, xw_X12_layReads_78, xw_X12_layReads_79, xw_X12_layReads_101, xw_X12_layReads_107, xw_X12_layReads_145, xw_X12_layReads_165, xw_X12_layReads_171, xw_X12_layReads_173, xw_X12_layReads_227, xw_X12_layReads_228, xw_X12_layReads_238, zw_lit, xB_c, xB_s, xB_n, i1_c, j2_c, k1_c, jJ_e, xlg, xls, xla, xpd, ppush, zw_m1, zw_m2, zw_m3, gf_12_0, gf_12_20, gf_12_22, gf_12_23, gf_12_24, gf_12_25, gf_12_26, pf_12_26, tg_12_0, tg_12_20, tg_12_22, tg_12_23, tg_12_24, tg_12_25, tg_12_26, gv_590_0, gv_590_20, gv_590_22, gv_590_23, gv_590_24, gv_590_25, gv_590_26, xD1, xD2, xD3, xD4, xD5, xp_ne, xp_at, eA] at h
          rcases h with ⟨c', h⟩ | ⟨_, h⟩
          · omega
          · obtain ⟨r, H2, ⟨rfl, hH2⟩, h⟩ := xc_use h (sp_X12_heapAt k (pup H1 600 k (rdL A k)) t ⟨hk0, by omega⟩ (by rw [xp_ne (by decide), eA]; exact hB) ⟨ht.1, by omega⟩ hf (by rw [xp_ne (by decide)]; exact e26) (fun x x0 x1 => by rw [xp_ne (by decide), e601]; exact t2 x x0 x1))
            rw [xp_ne (by decide), eA] at hH2 h
            have eI : tlI A k t = 12 + hpI A k t := if_pos c
            by_cases d : hpI A k t = t.1
            · rw [if_pos d] at hH2
              subst hH2
              have eH : tlH A k t = (t.1 + 1, xup t.2.1 t.1 k) := if_pos ⟨c, d⟩
              simp (maxDischargeDepth := 12) -implicitDefEqProofs [vb_X12_layReads_0, vb_X12_layReads_7, vb_X12_layReads_33, vb_X12_layReads_35, vb_X12_layReads_78, vb_X12_layReads_79, vb_X12_layReads_101, vb_X12_layReads_107, vb_X12_layReads_145, vb_X12_layReads_165, vb_X12_layReads_171, vb_X12_layReads_173, vb_X12_layReads_227, vb_X12_layReads_228, vb_X12_layReads_238, xI_0, xI_1, xI_3, xI_6, xI_7, xI_8, xI_14, xI_34, xI_36, xI_38, xI_40, xI_46, xI_49, xI_50, xI_51, xI_52, xI_60, xI_61, xI_65, xw_X12_layReads_0, xw_X12_layReads_7, xw_X12_layReads_33, xw_X12_layReads_35, xw_X12_layReads_78, xw_X12_layReads_79, xw_X12_layReads_101, xw_X12_layReads_107, xw_X12_layReads_145, xw_X12_layReads_165, xw_X12_layReads_171, xw_X12_layReads_173, xw_X12_layReads_227, xw_X12_layReads_228, xw_X12_layReads_238, zw_lit, xB_c, xB_s, xB_n, i1_c, j2_c, k1_c, jJ_e, xlg, xls, xla, xpd, ppush, zw_m1, zw_m2, zw_m3, gf_12_0, gf_12_20, gf_12_22, gf_12_23, gf_12_24, gf_12_25, gf_12_26, pf_12_26, tg_12_0, tg_12_20, tg_12_22, tg_12_23, tg_12_24, tg_12_25, tg_12_26, gv_590_0, gv_590_20, gv_590_22, gv_590_23, gv_590_24, gv_590_25, gv_590_26, xD1, xD2, xD3, xD4, xD5, xp_ne, xp_at, eA, z1, z2, z3, z4, z5] at h
              rcases h with ⟨c9, h⟩ | ⟨c9, h⟩
              · omega
              · rcases h with ⟨c0, h⟩ | ⟨c0, h⟩
                · refine nxt _ _ (by simp [xp_ne, eA]) ?_ (fun x x0 x1 => by
                    have := r600 x x0 x1
                    simpa [xp_ne] using this) (SCm_trans sc1 (SCm_trans (SCm_cell (by decide) (by decide)) (SCm_trans (SCm_fld (by decide)) (SCm_trans (SCm_cell (by decide) (by decide)) (SCm_cell (by decide) (by decide)))))) h
                  refine ⟨?_, ?_, ?_, ?_⟩
                  · show _ = (tlH A k t).1
                    rw [eH]
                    simp [xp_ne, xp_at, e26]
                  · intro x x0 (x1 : x < (tlH A k t).1)
                    show _ = (tlH A k t).2 x
                    rw [eH] at x1 ⊢
                    have x1 : x < t.1 + 1 := x1
                    by_cases e : x = t.1
                    · simp [xp_ne, xp_at, xup, e]
                    · simp [xp_ne, xp_at, xup, e, e601]
                      exact t2 x x0 (by omega)
                  · intro x x0 x1
                    show _ = (if A (404 + 12 * k) = 0 then xup t.2.2.1 (tlI A k t) (zw (t.2.2.1 (tlI A k t) + A (404 + 12 * k + 2))) else t.2.2.1) x
                    rw [eI]
                    simp [xp_ne, c0, e603]
                    exact t3 x x0 x1
                  · intro x x0 x1
                    show _ = (if A (404 + 12 * k) = 0 then t.2.2.2 else xup t.2.2.2 (tlI A k t) (zw (t.2.2.2 (tlI A k t) + A (404 + 12 * k + 2)))) x
                    rw [eI]
                    by_cases e : x = 12 + hpI A k t
                    · simp [xp_ne, xp_at, xup, e, c0, e604]
                      rw [t4 (12 + hpI A k t) (by omega) (by omega)]
                    · simp [xp_ne, xp_at, xup, e, c0, e604]
                      exact t4 x x0 x1
                · refine nxt _ _ (by simp [xp_ne, eA]) ?_ (fun x x0 x1 => by
                    have := r600 x x0 x1
                    simpa [xp_ne] using this) (SCm_trans sc1 (SCm_trans (SCm_cell (by decide) (by decide)) (SCm_trans (SCm_fld (by decide)) (SCm_trans (SCm_cell (by decide) (by decide)) (SCm_cell (by decide) (by decide)))))) h
                  refine ⟨?_, ?_, ?_, ?_⟩
                  · show _ = (tlH A k t).1
                    rw [eH]
                    simp [xp_ne, xp_at, e26]
                  · intro x x0 (x1 : x < (tlH A k t).1)
                    show _ = (tlH A k t).2 x
                    rw [eH] at x1 ⊢
                    have x1 : x < t.1 + 1 := x1
                    by_cases e : x = t.1
                    · simp [xp_ne, xp_at, xup, e]
                    · simp [xp_ne, xp_at, xup, e, e601]
                      exact t2 x x0 (by omega)
                  · intro x x0 x1
                    show _ = (if A (404 + 12 * k) = 0 then xup t.2.2.1 (tlI A k t) (zw (t.2.2.1 (tlI A k t) + A (404 + 12 * k + 2))) else t.2.2.1) x
                    rw [eI]
                    by_cases e : x = 12 + hpI A k t
                    · simp [xp_ne, xp_at, xup, e, c0, e603]
                      rw [t3 (12 + hpI A k t) (by omega) (by omega)]
                    · simp [xp_ne, xp_at, xup, e, c0, e603]
                      exact t3 x x0 x1
                  · intro x x0 x1
                    show _ = (if A (404 + 12 * k) = 0 then t.2.2.2 else xup t.2.2.2 (tlI A k t) (zw (t.2.2.2 (tlI A k t) + A (404 + 12 * k + 2)))) x
                    rw [eI]
                    simp [xp_ne, c0, e604]
                    exact t4 x x0 x1
            · rw [if_neg d] at hH2
              subst hH2
              have eH : tlH A k t = (t.1, t.2.1) := if_neg (fun q => d q.2)
              simp (maxDischargeDepth := 12) -implicitDefEqProofs [vb_X12_layReads_0, vb_X12_layReads_7, vb_X12_layReads_33, vb_X12_layReads_35, vb_X12_layReads_78, vb_X12_layReads_79, vb_X12_layReads_101, vb_X12_layReads_107, vb_X12_layReads_145, vb_X12_layReads_165, vb_X12_layReads_171, vb_X12_layReads_173, vb_X12_layReads_227, vb_X12_layReads_228, vb_X12_layReads_238, xI_0, xI_1, xI_3, xI_6, xI_7, xI_8, xI_14, xI_34, xI_36, xI_38, xI_40, xI_46, xI_49, xI_50, xI_51, xI_52, xI_60, xI_61, xI_65, xw_X12_layReads_0, xw_X12_layReads_7, xw_X12_layReads_33, xw_X12_layReads_35, xw_X12_layReads_78, xw_X12_layReads_79, xw_X12_layReads_101, xw_X12_layReads_107, xw_X12_layReads_145, xw_X12_layReads_165, xw_X12_layReads_171, xw_X12_layReads_173, xw_X12_layReads_227, xw_X12_layReads_228, xw_X12_layReads_238, zw_lit, xB_c, xB_s, xB_n, i1_c, j2_c, k1_c, jJ_e, xlg, xls, xla, xpd, ppush, zw_m1, zw_m2, zw_m3, gf_12_0, gf_12_20, gf_12_22, gf_12_23, gf_12_24, gf_12_25, gf_12_26, pf_12_26, tg_12_0, tg_12_20, tg_12_22, tg_12_23, tg_12_24, tg_12_25, tg_12_26, gv_590_0, gv_590_20, gv_590_22, gv_590_23, gv_590_24, gv_590_25, gv_590_26, xD1, xD2, xD3, xD4, xD5, xp_ne, xp_at, eA, z1, z2, z3, z4, z5] at h
              rcases h with ⟨c9, h⟩ | ⟨c9, h⟩
              · omega
              · rcases h with ⟨c0, h⟩ | ⟨c0, h⟩
                · refine nxt _ _ (by simp [xp_ne, eA]) ?_ (fun x x0 x1 => by
                    have := r600 x x0 x1
                    simpa [xp_ne] using this) (SCm_trans sc1 (SCm_trans (SCm_cell (by decide) (by decide)) (SCm_cell (by decide) (by decide)))) h
                  refine ⟨?_, ?_, ?_, ?_⟩
                  · show _ = (tlH A k t).1
                    rw [eH]
                    simp [xp_ne, xp_at, e26]
                  · intro x x0 (x1 : x < (tlH A k t).1)
                    show _ = (tlH A k t).2 x
                    rw [eH] at x1 ⊢
                    simp [xp_ne, e601]
                    exact t2 x x0 x1
                  · intro x x0 x1
                    show _ = (if A (404 + 12 * k) = 0 then xup t.2.2.1 (tlI A k t) (zw (t.2.2.1 (tlI A k t) + A (404 + 12 * k + 2))) else t.2.2.1) x
                    rw [eI]
                    simp [xp_ne, c0, e603]
                    exact t3 x x0 x1
                  · intro x x0 x1
                    show _ = (if A (404 + 12 * k) = 0 then t.2.2.2 else xup t.2.2.2 (tlI A k t) (zw (t.2.2.2 (tlI A k t) + A (404 + 12 * k + 2)))) x
                    rw [eI]
                    by_cases e : x = 12 + hpI A k t
                    · simp [xp_ne, xp_at, xup, e, c0, e604]
                      rw [t4 (12 + hpI A k t) (by omega) (by omega)]
                    · simp [xp_ne, xp_at, xup, e, c0, e604]
                      exact t4 x x0 x1
                · refine nxt _ _ (by simp [xp_ne, eA]) ?_ (fun x x0 x1 => by
                    have := r600 x x0 x1
                    simpa [xp_ne] using this) (SCm_trans sc1 (SCm_trans (SCm_cell (by decide) (by decide)) (SCm_cell (by decide) (by decide)))) h
                  refine ⟨?_, ?_, ?_, ?_⟩
                  · show _ = (tlH A k t).1
                    rw [eH]
                    simp [xp_ne, xp_at, e26]
                  · intro x x0 (x1 : x < (tlH A k t).1)
                    show _ = (tlH A k t).2 x
                    rw [eH] at x1 ⊢
                    simp [xp_ne, e601]
                    exact t2 x x0 x1
                  · intro x x0 x1
                    show _ = (if A (404 + 12 * k) = 0 then xup t.2.2.1 (tlI A k t) (zw (t.2.2.1 (tlI A k t) + A (404 + 12 * k + 2))) else t.2.2.1) x
                    rw [eI]
                    by_cases e : x = 12 + hpI A k t
                    · simp [xp_ne, xp_at, xup, e, c0, e603]
                      rw [t3 (12 + hpI A k t) (by omega) (by omega)]
                    · simp [xp_ne, xp_at, xup, e, c0, e603]
                      exact t3 x x0 x1
                  · intro x x0 x1
                    show _ = (if A (404 + 12 * k) = 0 then t.2.2.2 else xup t.2.2.2 (tlI A k t) (zw (t.2.2.2 (tlI A k t) + A (404 + 12 * k + 2)))) x
                    rw [eI]
                    simp [xp_ne, c0, e604]
                    exact t4 x x0 x1
        · have eI : tlI A k t = rdL A k := if_neg c
          have eH : tlH A k t = (t.1, t.2.1) := if_neg (fun q => c q.1)
          simp (maxDischargeDepth := 12) -implicitDefEqProofs [vb_X12_layReads_0, vb_X12_layReads_7, vb_X12_layReads_33, vb_X12_layReads_35, vb_X12_layReads_78, vb_X12_layReads_79, vb_X12_layReads_101, vb_X12_layReads_107, vb_X12_layReads_145, vb_X12_layReads_165, vb_X12_layReads_171, vb_X12_layReads_173, vb_X12_layReads_227, vb_X12_layReads_228, vb_X12_layReads_238, xI_0, xI_1, xI_3, xI_6, xI_7, xI_8, xI_14, xI_34, xI_36, xI_38, xI_40, xI_46, xI_49, xI_50, xI_51, xI_52, xI_60, xI_61, xI_65, xw_X12_layReads_0, xw_X12_layReads_7, xw_X12_layReads_33, xw_X12_layReads_35, xw_X12_layReads_78, xw_X12_layReads_79, xw_X12_layReads_101, xw_X12_layReads_107, xw_X12_layReads_145, xw_X12_layReads_165, xw_X12_layReads_171, xw_X12_layReads_173, xw_X12_layReads_227, xw_X12_layReads_228, xw_X12_layReads_238, zw_lit, xB_c, xB_s, xB_n, i1_c, j2_c, k1_c, jJ_e, xlg, xls, xla, xpd, ppush, zw_m1, zw_m2, zw_m3, gf_12_0, gf_12_20, gf_12_22, gf_12_23, gf_12_24, gf_12_25, gf_12_26, pf_12_26, tg_12_0, tg_12_20, tg_12_22, tg_12_23, tg_12_24, tg_12_25, tg_12_26, gv_590_0, gv_590_20, gv_590_22, gv_590_23, gv_590_24, gv_590_25, gv_590_26, xD1, xD2, xD3, xD4, xD5, xp_ne, xp_at, eA, z1, z2, z3, z4, z5] at h
          rcases h with ⟨_, h⟩ | ⟨c', h⟩
          · rcases h with ⟨c9, h⟩ | ⟨c9, h⟩
            · rcases h with ⟨c0, h⟩ | ⟨c0, h⟩
              · refine nxt _ _ (by simp [xp_ne, eA]) ?_ (fun x x0 x1 => by
                  have := r600 x x0 x1
                  simpa [xp_ne] using this) (SCm_trans sc1 (SCm_trans (SCm_cell (by decide) (by decide)) (SCm_cell (by decide) (by decide)))) h
                refine ⟨?_, ?_, ?_, ?_⟩
                · show _ = (tlH A k t).1
                  rw [eH]
                  simp [xp_ne, xp_at, e26]
                · intro x x0 (x1 : x < (tlH A k t).1)
                  show _ = (tlH A k t).2 x
                  rw [eH] at x1 ⊢
                  simp [xp_ne, e601]
                  exact t2 x x0 x1
                · intro x x0 x1
                  show _ = (if A (404 + 12 * k) = 0 then xup t.2.2.1 (tlI A k t) (zw (t.2.2.1 (tlI A k t) + A (404 + 12 * k + 2))) else t.2.2.1) x
                  rw [eI]
                  simp [xp_ne, c0, e603]
                  exact t3 x x0 x1
                · intro x x0 x1
                  show _ = (if A (404 + 12 * k) = 0 then t.2.2.2 else xup t.2.2.2 (tlI A k t) (zw (t.2.2.2 (tlI A k t) + A (404 + 12 * k + 2)))) x
                  rw [eI]
                  by_cases e : x = rdL A k
                  · simp [xp_ne, xp_at, xup, e, c0, e604]
                    rw [t4 (rdL A k) (by omega) (by omega)]
                  · simp [xp_ne, xp_at, xup, e, c0, e604]
                    exact t4 x x0 x1
              · refine nxt _ _ (by simp [xp_ne, eA]) ?_ (fun x x0 x1 => by
                  have := r600 x x0 x1
                  simpa [xp_ne] using this) (SCm_trans sc1 (SCm_trans (SCm_cell (by decide) (by decide)) (SCm_cell (by decide) (by decide)))) h
                refine ⟨?_, ?_, ?_, ?_⟩
                · show _ = (tlH A k t).1
                  rw [eH]
                  simp [xp_ne, xp_at, e26]
                · intro x x0 (x1 : x < (tlH A k t).1)
                  show _ = (tlH A k t).2 x
                  rw [eH] at x1 ⊢
                  simp [xp_ne, e601]
                  exact t2 x x0 x1
                · intro x x0 x1
                  show _ = (if A (404 + 12 * k) = 0 then xup t.2.2.1 (tlI A k t) (zw (t.2.2.1 (tlI A k t) + A (404 + 12 * k + 2))) else t.2.2.1) x
                  rw [eI]
                  by_cases e : x = rdL A k
                  · simp [xp_ne, xp_at, xup, e, c0, e603]
                    rw [t3 (rdL A k) (by omega) (by omega)]
                  · simp [xp_ne, xp_at, xup, e, c0, e603]
                    exact t3 x x0 x1
                · intro x x0 x1
                  show _ = (if A (404 + 12 * k) = 0 then t.2.2.2 else xup t.2.2.2 (tlI A k t) (zw (t.2.2.2 (tlI A k t) + A (404 + 12 * k + 2)))) x
                  rw [eI]
                  simp [xp_ne, c0, e604]
                  exact t4 x x0 x1
            · omega
          · omega
