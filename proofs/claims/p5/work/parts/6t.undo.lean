set_option maxRecDepth 20000 in
set_option maxHeartbeats 4000000 in
theorem ca_undo_3 {G : zG} {us : Nat} {g : Nat → Nat → Int} (l : Int) (c : Int) (H : PH) (hc : c = 469 + 6 * l) (hW : WT 2 g H) (hM : IM H) (l0 : 0 ≤ l) (l1 : l ≤ 19) (hk : H c 0 = 3) (ha : 0 ≤ H c 1 ∧ H c 1 ≤ 11) : Ca G us 7 31 [(2, c), (2, 1)] H (fun r H' => r = none ∧ WT 2 g H' ∧ frm [0, 1, 2, 3, 5, 6, 9, 11, 34, 35, 36, 37, 38, 39, 40, 41, 42, 43, 44, 45, 46, 47, 48, 49, 50, 51, 53, 54, 55, 56, 57, 58, 59, 60, 61, 62, 63, 64, 65, 66, 67, 68, 69, 70, 71, 72, 73, 74, 75, 76, 77, 4, 10, 8] H H' ∧ IM H' ∧ SME H H') := by
  have c0 : 0 ≤ c := by omega
  have c1 : c < 622 := by omega
  have s1 : (zSh c.toNat).1 = 2 := by rw [hc]; exact (sh_deed l0 l1).1
  have s2 : (zSh c.toNat).2.1 = 6 := by rw [hc]; exact (sh_deed l0 l1).2.1
  have w0 : ∀ X : PH, gv X c 0 = X c 0 := fun X => by rw [hc]; exact (gv_deed l0 l1).1
  have w1 : ∀ X : PH, gv X c 1 = X c 1 := fun X => by rw [hc]; exact (gv_deed l0 l1).2.1
  have w2 : ∀ X : PH, gv X c 2 = X c 2 := fun X => by rw [hc]; exact (gv_deed l0 l1).2.2.1
  have w3 : ∀ X : PH, gv X c 3 = X c 3 := fun X => by rw [hc]; exact (gv_deed l0 l1).2.2.2
  have w4 : ∀ X : PH, gv X c 4 = X c 4 := fun X => by rw [hc]; exact dg4 l0 l1
  have w5 : ∀ X : PH, gv X c 5 = X c 5 := fun X => by rw [hc]; exact dg5 l0 l1
  have z4 : zrt c.toNat 4 = none := by rw [hc]; exact (dz l0 l1).1
  have z5 : zrt c.toNat 5 = none := by rw [hc]; exact (dz l0 l1).2
  have n1 : ¬ c = 1 := by omega
  have n2 : ¬ (1 : Int) = c := by omega
  have rr := rd_deed hW l0 l1
  rw [← hc] at rr
  obtain ⟨d, hd⟩ : ∃ d : Int, d = 57 + 3 * H c 1 := ⟨_, rfl⟩
  have gB : ∀ X : PH, gv X 46 (H c 1) = d := fun X => by rw [hd]; exact gv_46 ha.1 ha.2
  have hs := sh_bill (l := (H c 1).toNat) (by omega)
  have eN : d.toNat = 57 + 3 * (H c 1).toNat := by omega
  have d0 : 0 ≤ d := by omega
  have d1 : d < 622 := by omega
  have v1 : (zSh d.toNat).1 = 0 := by rw [eN]; exact hs.1
  have v2 : (zSh d.toNat).2.1 = 8 := by rw [eN]; exact hs.2.1
  have y3 : zrt d.toNat 3 = none := by rw [eN]; exact hs.2.2.1
  have y4 : zrt d.toNat 4 = none := by rw [eN]; exact hs.2.2.2.1
  have y5 : zrt d.toNat 5 = none := by rw [eN]; exact hs.2.2.2.2.1
  have u3 : ∀ X : PH, gv X d 3 = X d 3 := fun X => gv_none y3
  have u4 : ∀ X : PH, gv X d 4 = X d 4 := fun X => gv_none y4
  have u5 : ∀ X : PH, gv X d 5 = X d 5 := fun X => gv_none y5
  have m1 : ¬ d = c := by omega
  have m2 : ¬ c = d := by omega
  have m3 : ¬ d = 1 := by omega
  have m4 : ¬ (1 : Int) = d := by omega
  refine ⟨_, _, _, _, _, _, vm_X2_undo, by simp [pcat], ?_⟩
  refine tr_lab (D := 6) (t := 0) vb_X2_undo_0 _ ve_X2_undo_0 ?_
  simp (maxDischargeDepth := 12) [vb_X2_undo_0, wB, wI, k1, kI, kR, kL, k2, pget, parg, ppush, pcat, zw_lit, zw_m1, zw_m2, zw_m3, zNC_eq, zrow, pup_app, pget_pss, pget_psx, nlg_some, nlg_none, gv_1_1, gv_1_13, pe, tg_0_3, tg_0_4, tg_0_5, tg_1_1, tg_1_10, tg_1_11, tg_1_12, tg_1_13, tg_1_7, tg_1_8, tg_1_9, tg_2_0, tg_2_1, tg_2_2, tg_2_3, tg_2_5, zfit, zisI, sh_590, sh_1, sh_46, c0, c1, s1, s2, w0, w1, w2, w3, w4, w5, z4, z5, n1, n2, hk, ptl, ptsw, gB, d0, d1, v1, v2, y3, y4, y5, u3, u4, u5, m1, m2, m3, m4, ha]
  repeat' (with_reducible (first | (refine And.intro ?_ ?_) | intro _))
  all_goals try (refine tr_lab (D := 6) (t := 108) vb_X2_undo_108 _ ve_X2_undo_108 ?_; simp (maxDischargeDepth := 12) [vb_X2_undo_108, wB, wI, k1, kI, kR, kL, k2, pget, parg, ppush, pcat, zw_lit, zw_m1, zw_m2, zw_m3, zNC_eq, zrow, pup_app, pget_pss, pget_psx, nlg_some, nlg_none, gv_1_1, gv_1_13, pe, tg_0_3, tg_0_4, tg_0_5, tg_1_1, tg_1_10, tg_1_11, tg_1_12, tg_1_13, tg_1_7, tg_1_8, tg_1_9, tg_2_0, tg_2_1, tg_2_2, tg_2_3, tg_2_5, zfit, zisI, sh_590, sh_1, sh_46, c0, c1, s1, s2, w0, w1, w2, w3, w4, w5, z4, z5, n1, n2, hk, ptl, ptsw, gB, d0, d1, v1, v2, y3, y4, y5, u3, u4, u5, m1, m2, m3, m4, ha])
  all_goals repeat' (with_reducible (first | (refine And.intro ?_ ?_) | intro _))
  all_goals try (refine tr_lab (D := 6) (t := 243) vb_X2_undo_243 _ ve_X2_undo_243 ?_; simp (maxDischargeDepth := 12) [vb_X2_undo_243, wB, wI, k1, kI, kR, kL, k2, pget, parg, ppush, pcat, zw_lit, zw_m1, zw_m2, zw_m3, zNC_eq, zrow, pup_app, pget_pss, pget_psx, nlg_some, nlg_none, gv_1_1, gv_1_13, pe, tg_0_3, tg_0_4, tg_0_5, tg_1_1, tg_1_10, tg_1_11, tg_1_12, tg_1_13, tg_1_7, tg_1_8, tg_1_9, tg_2_0, tg_2_1, tg_2_2, tg_2_3, tg_2_5, zfit, zisI, sh_590, sh_1, sh_46, c0, c1, s1, s2, w0, w1, w2, w3, w4, w5, z4, z5, n1, n2, hk, ptl, ptsw, gB, d0, d1, v1, v2, y3, y4, y5, u3, u4, u5, m1, m2, m3, m4, ha])
  all_goals repeat' (with_reducible (first | (refine And.intro ?_ ?_) | intro _))
  all_goals (first | omega | assumption | (subst hd; exact w2_bill 3 (by omega) hW ha.1 ha.2 (by omega) (by omega)) | (subst hd; exact fr_bill 3 (by omega) (frm_refl _ _) ha.1 ha.2 rfl) | (exact IM_pup hM (by omega)) | (exact SME_pup (by omega) (by omega) (by omega) (by omega) (by omega)) | (subst hd; exact wf_1_13 (w2_bill 4 (by omega) hW ha.1 ha.2 (zw_lo _) (zw_hi _)) (zw_lo _) (zw_hi _)) | (subst hd; exact ff_1_13 (fr_bill 4 (by omega) (frm_refl _ _) ha.1 ha.2 rfl) rfl) | (exact IM_pup (IM_pup hM (by omega)) (by omega)) | (exact SME_trans (SME_pup (by omega) (by omega) (by omega) (by omega) (by omega)) (SME_pup (by omega) (by omega) (by omega) (by omega) (by omega))) | decide | skip)

set_option maxRecDepth 20000 in
set_option maxHeartbeats 4000000 in
theorem ca_undo_d {G : zG} {us : Nat} {g : Nat → Nat → Int} (l : Int) (c : Int) (H : PH) (hc : c = 469 + 6 * l) (hW : WT 2 g H) (hM : IM H) (l0 : 0 ≤ l) (l1 : l ≤ 19) (hk : H c 0 < 0 ∨ 9 < H c 0) (ha : 0 ≤ H c 1 ∧ H c 1 ≤ 11) : Ca G us 7 31 [(2, c), (2, 1)] H (fun r H' => r = none ∧ WT 2 g H' ∧ frm [0, 1, 2, 3, 5, 6, 9, 11, 34, 35, 36, 37, 38, 39, 40, 41, 42, 43, 44, 45, 46, 47, 48, 49, 50, 51, 53, 54, 55, 56, 57, 58, 59, 60, 61, 62, 63, 64, 65, 66, 67, 68, 69, 70, 71, 72, 73, 74, 75, 76, 77, 4, 10, 8] H H' ∧ IM H' ∧ SME H H') := by
  have c0 : 0 ≤ c := by omega
  have c1 : c < 622 := by omega
  have s1 : (zSh c.toNat).1 = 2 := by rw [hc]; exact (sh_deed l0 l1).1
  have s2 : (zSh c.toNat).2.1 = 6 := by rw [hc]; exact (sh_deed l0 l1).2.1
  have w0 : ∀ X : PH, gv X c 0 = X c 0 := fun X => by rw [hc]; exact (gv_deed l0 l1).1
  have w1 : ∀ X : PH, gv X c 1 = X c 1 := fun X => by rw [hc]; exact (gv_deed l0 l1).2.1
  have w2 : ∀ X : PH, gv X c 2 = X c 2 := fun X => by rw [hc]; exact (gv_deed l0 l1).2.2.1
  have w3 : ∀ X : PH, gv X c 3 = X c 3 := fun X => by rw [hc]; exact (gv_deed l0 l1).2.2.2
  have w4 : ∀ X : PH, gv X c 4 = X c 4 := fun X => by rw [hc]; exact dg4 l0 l1
  have w5 : ∀ X : PH, gv X c 5 = X c 5 := fun X => by rw [hc]; exact dg5 l0 l1
  have z4 : zrt c.toNat 4 = none := by rw [hc]; exact (dz l0 l1).1
  have z5 : zrt c.toNat 5 = none := by rw [hc]; exact (dz l0 l1).2
  have n1 : ¬ c = 1 := by omega
  have n2 : ¬ (1 : Int) = c := by omega
  have rr := rd_deed hW l0 l1
  rw [← hc] at rr
  obtain ⟨d, hd⟩ : ∃ d : Int, d = 57 + 3 * H c 1 := ⟨_, rfl⟩
  have gB : ∀ X : PH, gv X 46 (H c 1) = d := fun X => by rw [hd]; exact gv_46 ha.1 ha.2
  have hs := sh_bill (l := (H c 1).toNat) (by omega)
  have eN : d.toNat = 57 + 3 * (H c 1).toNat := by omega
  have d0 : 0 ≤ d := by omega
  have d1 : d < 622 := by omega
  have v1 : (zSh d.toNat).1 = 0 := by rw [eN]; exact hs.1
  have v2 : (zSh d.toNat).2.1 = 8 := by rw [eN]; exact hs.2.1
  have y3 : zrt d.toNat 3 = none := by rw [eN]; exact hs.2.2.1
  have y4 : zrt d.toNat 4 = none := by rw [eN]; exact hs.2.2.2.1
  have y5 : zrt d.toNat 5 = none := by rw [eN]; exact hs.2.2.2.2.1
  have u3 : ∀ X : PH, gv X d 3 = X d 3 := fun X => gv_none y3
  have u4 : ∀ X : PH, gv X d 4 = X d 4 := fun X => gv_none y4
  have u5 : ∀ X : PH, gv X d 5 = X d 5 := fun X => gv_none y5
  have m1 : ¬ d = c := by omega
  have m2 : ¬ c = d := by omega
  have m3 : ¬ d = 1 := by omega
  have m4 : ¬ (1 : Int) = d := by omega
  refine ⟨_, _, _, _, _, _, vm_X2_undo, by simp [pcat], ?_⟩
  refine tr_lab (D := 6) (t := 0) vb_X2_undo_0 _ ve_X2_undo_0 ?_
  simp (maxDischargeDepth := 12) [vb_X2_undo_0, wB, wI, k1, kI, kR, kL, k2, pget, parg, ppush, pcat, zw_lit, zw_m1, zw_m2, zw_m3, zNC_eq, zrow, pup_app, pget_pss, pget_psx, nlg_some, nlg_none, gv_1_1, gv_1_13, pe, tg_0_3, tg_0_4, tg_0_5, tg_1_1, tg_1_10, tg_1_11, tg_1_12, tg_1_13, tg_1_7, tg_1_8, tg_1_9, tg_2_0, tg_2_1, tg_2_2, tg_2_3, tg_2_5, zfit, zisI, sh_590, sh_1, sh_46, c0, c1, s1, s2, w0, w1, w2, w3, w4, w5, z4, z5, n1, n2, hk, ptl, ptsw, gB, d0, d1, v1, v2, y3, y4, y5, u3, u4, u5, m1, m2, m3, m4, ha]
  repeat' (with_reducible (first | (refine And.intro ?_ ?_) | intro _))
  all_goals try (refine tr_lab (D := 6) (t := 209) vb_X2_undo_209 _ ve_X2_undo_209 ?_; simp (maxDischargeDepth := 12) [vb_X2_undo_209, wB, wI, k1, kI, kR, kL, k2, pget, parg, ppush, pcat, zw_lit, zw_m1, zw_m2, zw_m3, zNC_eq, zrow, pup_app, pget_pss, pget_psx, nlg_some, nlg_none, gv_1_1, gv_1_13, pe, tg_0_3, tg_0_4, tg_0_5, tg_1_1, tg_1_10, tg_1_11, tg_1_12, tg_1_13, tg_1_7, tg_1_8, tg_1_9, tg_2_0, tg_2_1, tg_2_2, tg_2_3, tg_2_5, zfit, zisI, sh_590, sh_1, sh_46, c0, c1, s1, s2, w0, w1, w2, w3, w4, w5, z4, z5, n1, n2, hk, ptl, ptsw, gB, d0, d1, v1, v2, y3, y4, y5, u3, u4, u5, m1, m2, m3, m4, ha])
  all_goals repeat' (with_reducible (first | (refine And.intro ?_ ?_) | intro _))
  all_goals try (refine tr_lab (D := 6) (t := 243) vb_X2_undo_243 _ ve_X2_undo_243 ?_; simp (maxDischargeDepth := 12) [vb_X2_undo_243, wB, wI, k1, kI, kR, kL, k2, pget, parg, ppush, pcat, zw_lit, zw_m1, zw_m2, zw_m3, zNC_eq, zrow, pup_app, pget_pss, pget_psx, nlg_some, nlg_none, gv_1_1, gv_1_13, pe, tg_0_3, tg_0_4, tg_0_5, tg_1_1, tg_1_10, tg_1_11, tg_1_12, tg_1_13, tg_1_7, tg_1_8, tg_1_9, tg_2_0, tg_2_1, tg_2_2, tg_2_3, tg_2_5, zfit, zisI, sh_590, sh_1, sh_46, c0, c1, s1, s2, w0, w1, w2, w3, w4, w5, z4, z5, n1, n2, hk, ptl, ptsw, gB, d0, d1, v1, v2, y3, y4, y5, u3, u4, u5, m1, m2, m3, m4, ha])
  all_goals repeat' (with_reducible (first | (refine And.intro ?_ ?_) | intro _))
  all_goals (first | omega | assumption | (subst hd; exact w2_bill 3 (by omega) hW ha.1 ha.2 (by omega) (by omega)) | (subst hd; exact fr_bill 3 (by omega) (frm_refl _ _) ha.1 ha.2 rfl) | (exact IM_pup hM (by omega)) | (exact SME_pup (by omega) (by omega) (by omega) (by omega) (by omega)) | (subst hd; exact wf_1_13 (w2_bill 4 (by omega) hW ha.1 ha.2 (zw_lo _) (zw_hi _)) (zw_lo _) (zw_hi _)) | (subst hd; exact ff_1_13 (fr_bill 4 (by omega) (frm_refl _ _) ha.1 ha.2 rfl) rfl) | (exact IM_pup (IM_pup hM (by omega)) (by omega)) | (exact SME_trans (SME_pup (by omega) (by omega) (by omega) (by omega) (by omega)) (SME_pup (by omega) (by omega) (by omega) (by omega) (by omega))) | decide | skip)

theorem rem_dn {g : Nat → Nat → Int} {H : PH} {a : Int} (hW : WT 2 g H) (hM : IM H) (a0 : 0 ≤ a) (a1 : a ≤ 11) (hr : 1 ≤ rem H a) : ∀ H', H' = pup H (57 + 3 * a) 5 (rem H a - 1) → WT 2 g H' ∧ frm [0, 1, 2, 3, 5, 6, 9, 11, 34, 35, 36, 37, 38, 39, 40, 41, 42, 43, 44, 45, 46, 47, 48, 49, 50, 51, 53, 54, 55, 56, 57, 58, 59, 60, 61, 62, 63, 64, 65, 66, 67, 68, 69, 70, 71, 72, 73, 74, 75, 76, 77, 4, 10, 8] H H' ∧ IM H' ∧ SC H H' ∧ H' 1 2 = H 1 2 ∧ (∀ x, 0 ≤ x → x ≤ 11 → rem H' x = dec1 (rem H) a x) ∧ H' 213 1 = H 213 1 := by
  intro H' hH
  have h6 := rd_rem5 hW a0 a1
  have row : ∀ c : Int, c ≠ 57 + 3 * a → H' c = H c := fun c q => by rw [hH, pup_row q]
  refine ⟨?_, ?_, ?_, ⟨by rw [row 0 (by omega)], by rw [row 0 (by omega)], fun j j0 j1 => ?_⟩, by rw [row 1 (by omega)], fun x x0 x1 => ?_, by rw [row 213 (by omega)]⟩
  · rw [hH]
    exact w2_bl 5 (by decide) hW a0 a1 (vin (lo := 0) (hi := 6) (by omega) (by omega))
  · rw [hH]
    exact fr_bill 5 (by omega) (frm_refl _ _) a0 a1 rfl
  · rw [hH]
    exact IM_pup hM (by omega)
  · unfold ent
    rw [row _ (by omega)]
  · unfold dec1
    by_cases e : x = a
    · rw [if_pos e, e]
      unfold rem
      rw [hH]
      exact if_pos ⟨rfl, rfl⟩
    · rw [if_neg e]
      unfold rem
      rw [row _ (by omega)]

set_option maxRecDepth 20000 in
set_option maxHeartbeats 4000000 in
theorem ca_undo_2 {G : zG} {us : Nat} {g : Nat → Nat → Int} (l : Int) (c : Int) (H : PH) (hc : c = 469 + 6 * l) (hW : WT 2 g H) (hM : IM H) (l0 : 0 ≤ l) (l1 : l ≤ 19) (hk : H c 0 = 2) (ha : 0 ≤ H c 1 ∧ H c 1 ≤ 11) (hr : 1 ≤ rem H (H c 1)) : Ca G us 7 31 [(2, c), (2, 1)] H (fun r H' => r = none ∧ WT 2 g H' ∧ frm [0, 1, 2, 3, 5, 6, 9, 11, 34, 35, 36, 37, 38, 39, 40, 41, 42, 43, 44, 45, 46, 47, 48, 49, 50, 51, 53, 54, 55, 56, 57, 58, 59, 60, 61, 62, 63, 64, 65, 66, 67, 68, 69, 70, 71, 72, 73, 74, 75, 76, 77, 4, 10, 8] H H' ∧ IM H' ∧ SC H H' ∧ H' 1 2 = H 1 2 ∧ (∀ x, 0 ≤ x → x ≤ 11 → rem H' x = dec1 (rem H) (H c 1) x) ∧ H' 213 1 = H 213 1) := by
  have c0 : 0 ≤ c := by omega
  have c1 : c < 622 := by omega
  have s1 : (zSh c.toNat).1 = 2 := by rw [hc]; exact (sh_deed l0 l1).1
  have s2 : (zSh c.toNat).2.1 = 6 := by rw [hc]; exact (sh_deed l0 l1).2.1
  have w0 : ∀ X : PH, gv X c 0 = X c 0 := fun X => by rw [hc]; exact (gv_deed l0 l1).1
  have w1 : ∀ X : PH, gv X c 1 = X c 1 := fun X => by rw [hc]; exact (gv_deed l0 l1).2.1
  have w2 : ∀ X : PH, gv X c 2 = X c 2 := fun X => by rw [hc]; exact (gv_deed l0 l1).2.2.1
  have w3 : ∀ X : PH, gv X c 3 = X c 3 := fun X => by rw [hc]; exact (gv_deed l0 l1).2.2.2
  have w4 : ∀ X : PH, gv X c 4 = X c 4 := fun X => by rw [hc]; exact dg4 l0 l1
  have w5 : ∀ X : PH, gv X c 5 = X c 5 := fun X => by rw [hc]; exact dg5 l0 l1
  have z4 : zrt c.toNat 4 = none := by rw [hc]; exact (dz l0 l1).1
  have z5 : zrt c.toNat 5 = none := by rw [hc]; exact (dz l0 l1).2
  have n1 : ¬ c = 1 := by omega
  have n2 : ¬ (1 : Int) = c := by omega
  have rr := rd_deed hW l0 l1
  rw [← hc] at rr
  obtain ⟨d, hd⟩ : ∃ d : Int, d = 57 + 3 * H c 1 := ⟨_, rfl⟩
  have gB : ∀ X : PH, gv X 46 (H c 1) = d := fun X => by rw [hd]; exact gv_46 ha.1 ha.2
  have hs := sh_bill (l := (H c 1).toNat) (by omega)
  have eN : d.toNat = 57 + 3 * (H c 1).toNat := by omega
  have d0 : 0 ≤ d := by omega
  have d1 : d < 622 := by omega
  have v1 : (zSh d.toNat).1 = 0 := by rw [eN]; exact hs.1
  have v2 : (zSh d.toNat).2.1 = 8 := by rw [eN]; exact hs.2.1
  have y3 : zrt d.toNat 3 = none := by rw [eN]; exact hs.2.2.1
  have y4 : zrt d.toNat 4 = none := by rw [eN]; exact hs.2.2.2.1
  have y5 : zrt d.toNat 5 = none := by rw [eN]; exact hs.2.2.2.2.1
  have u3 : ∀ X : PH, gv X d 3 = X d 3 := fun X => gv_none y3
  have u4 : ∀ X : PH, gv X d 4 = X d 4 := fun X => gv_none y4
  have u5 : ∀ X : PH, gv X d 5 = X d 5 := fun X => gv_none y5
  have m1 : ¬ d = c := by omega
  have m2 : ¬ c = d := by omega
  have m3 : ¬ d = 1 := by omega
  have m4 : ¬ (1 : Int) = d := by omega
  have h6 := rd_rem5 hW ha.1 ha.2
  have er : H d 5 = rem H (H c 1) := by rw [hd]; rfl
  have zr : zw (H d 5 - 1) = rem H (H c 1) - 1 := by rw [er]; exact zw_lit (by omega) (by omega)
  have B := rem_dn hW hM ha.1 ha.2 hr _ rfl
  rw [← hd] at B
  refine ⟨_, _, _, _, _, _, vm_X2_undo, by simp [pcat], ?_⟩
  refine tr_lab (D := 6) (t := 0) vb_X2_undo_0 _ ve_X2_undo_0 ?_
  simp (maxDischargeDepth := 12) [vb_X2_undo_0, wB, wI, k1, kI, kR, kL, k2, pget, parg, ppush, pcat, zw_lit, zw_m1, zw_m2, zw_m3, zNC_eq, zrow, pup_app, pget_pss, pget_psx, nlg_some, nlg_none, gv_1_1, gv_1_13, pe, tg_0_3, tg_0_4, tg_0_5, tg_1_1, tg_1_10, tg_1_11, tg_1_12, tg_1_13, tg_1_7, tg_1_8, tg_1_9, tg_2_0, tg_2_1, tg_2_2, tg_2_3, tg_2_5, zfit, zisI, sh_590, sh_1, sh_46, c0, c1, s1, s2, w0, w1, w2, w3, w4, w5, z4, z5, n1, n2, hk, ptl, ptsw, gB, d0, d1, v1, v2, y3, y4, y5, u3, u4, u5, m1, m2, m3, m4, ha, zr]
  repeat' (with_reducible (first | (refine And.intro ?_ ?_) | intro _))
  all_goals try (refine tr_lab (D := 6) (t := 87) vb_X2_undo_87 _ ve_X2_undo_87 ?_; simp (maxDischargeDepth := 12) [vb_X2_undo_87, wB, wI, k1, kI, kR, kL, k2, pget, parg, ppush, pcat, zw_lit, zw_m1, zw_m2, zw_m3, zNC_eq, zrow, pup_app, pget_pss, pget_psx, nlg_some, nlg_none, gv_1_1, gv_1_13, pe, tg_0_3, tg_0_4, tg_0_5, tg_1_1, tg_1_10, tg_1_11, tg_1_12, tg_1_13, tg_1_7, tg_1_8, tg_1_9, tg_2_0, tg_2_1, tg_2_2, tg_2_3, tg_2_5, zfit, zisI, sh_590, sh_1, sh_46, c0, c1, s1, s2, w0, w1, w2, w3, w4, w5, z4, z5, n1, n2, hk, ptl, ptsw, gB, d0, d1, v1, v2, y3, y4, y5, u3, u4, u5, m1, m2, m3, m4, ha, zr])
  all_goals repeat' (with_reducible (first | (refine And.intro ?_ ?_) | intro _))
  all_goals try (refine tr_lab (D := 6) (t := 243) vb_X2_undo_243 _ ve_X2_undo_243 ?_; simp (maxDischargeDepth := 12) [vb_X2_undo_243, wB, wI, k1, kI, kR, kL, k2, pget, parg, ppush, pcat, zw_lit, zw_m1, zw_m2, zw_m3, zNC_eq, zrow, pup_app, pget_pss, pget_psx, nlg_some, nlg_none, gv_1_1, gv_1_13, pe, tg_0_3, tg_0_4, tg_0_5, tg_1_1, tg_1_10, tg_1_11, tg_1_12, tg_1_13, tg_1_7, tg_1_8, tg_1_9, tg_2_0, tg_2_1, tg_2_2, tg_2_3, tg_2_5, zfit, zisI, sh_590, sh_1, sh_46, c0, c1, s1, s2, w0, w1, w2, w3, w4, w5, z4, z5, n1, n2, hk, ptl, ptsw, gB, d0, d1, v1, v2, y3, y4, y5, u3, u4, u5, m1, m2, m3, m4, ha, zr])
  all_goals repeat' (with_reducible (first | (refine And.intro ?_ ?_) | intro _))
  all_goals (first | exact B.1 | exact B.2.1 | exact B.2.2.1 | exact B.2.2.2.1 | exact B.2.2.2.2.1 | exact B.2.2.2.2.2.1 | exact B.2.2.2.2.2.1 _ (by assumption) (by assumption) | exact B.2.2.2.2.2.2 | omega | decide | skip)

set_option maxRecDepth 20000 in
set_option maxHeartbeats 4000000 in
theorem ca_X2_swapLaw {G : zG} {us : Nat} {g : Nat → Nat → Int} (l : Int) (c : Int) (H : PH) (hc : c = 469 + 6 * l) (hW : WT 2 g H) (l0 : 0 ≤ l) (l1 : l ≤ 19) : Ca G us 1 32 [(2, c), (2, 1)] H (fun r H' => r = none ∧ H' = pup (pup H 1 5 (H c 4)) c 4 (H 1 5)) := by
  have c0 : 0 ≤ c := by omega
  have c1 : c < 622 := by omega
  have s1 : (zSh c.toNat).1 = 2 := by rw [hc]; exact (sh_deed l0 l1).1
  have s2 : (zSh c.toNat).2.1 = 6 := by rw [hc]; exact (sh_deed l0 l1).2.1
  have w0 : ∀ X : PH, gv X c 0 = X c 0 := fun X => by rw [hc]; exact (gv_deed l0 l1).1
  have w1 : ∀ X : PH, gv X c 1 = X c 1 := fun X => by rw [hc]; exact (gv_deed l0 l1).2.1
  have w2 : ∀ X : PH, gv X c 2 = X c 2 := fun X => by rw [hc]; exact (gv_deed l0 l1).2.2.1
  have w3 : ∀ X : PH, gv X c 3 = X c 3 := fun X => by rw [hc]; exact (gv_deed l0 l1).2.2.2
  have w4 : ∀ X : PH, gv X c 4 = X c 4 := fun X => by rw [hc]; exact dg4 l0 l1
  have w5 : ∀ X : PH, gv X c 5 = X c 5 := fun X => by rw [hc]; exact dg5 l0 l1
  have z4 : zrt c.toNat 4 = none := by rw [hc]; exact (dz l0 l1).1
  have z5 : zrt c.toNat 5 = none := by rw [hc]; exact (dz l0 l1).2
  have n1 : ¬ c = 1 := by omega
  have n2 : ¬ (1 : Int) = c := by omega
  have t1 := (rd_law hW).1
  have t2 := (rd_deed45 hW l0 l1).1
  rw [← hc] at t2
  refine ⟨_, _, _, _, _, _, vm_X2_swapLaw, by simp [pcat], ?_⟩
  refine tr_lab (D := 0) (t := 0) vb_X2_swapLaw_0 _ ve_X2_swapLaw_0 ?_
  simp (maxDischargeDepth := 12) [vb_X2_swapLaw_0, wB, wI, k1, kI, kR, kL, k2, pget, parg, ppush, pcat, zw_lit, zw_m1, zw_m2, zw_m3, zNC_eq, zrow, pup_app, pget_pss, pget_psx, nlg_some, nlg_none, gv_1_5, pe, tg_1_5, tg_2_4, zfit, zisI, sh_590, sh_1, c0, c1, s1, s2, w0, w1, w2, w3, w4, w5, z4, z5, n1, n2, ptl, ptsw]
  repeat' (with_reducible (first | (refine And.intro ?_ ?_) | intro _))
  all_goals (first | omega | rfl | (show zisR (pe (2, _)) = true; refine pe_R ?_; omega) | decide | skip)

set_option maxRecDepth 20000 in
set_option maxHeartbeats 4000000 in
theorem ca_undo_1 {G : zG} {us : Nat} {g : Nat → Nat → Int} (l : Int) (c : Int) (H : PH) (hc : c = 469 + 6 * l) (hW : WT 2 g H) (hM : IM H) (l0 : 0 ≤ l) (l1 : l ≤ 19) (hk : H c 0 = 1)  : Ca G us 7 31 [(2, c), (2, 1)] H (fun r H' => r = none ∧ WT 2 g H' ∧ frm [0, 1, 2, 3, 5, 6, 9, 11, 34, 35, 36, 37, 38, 39, 40, 41, 42, 43, 44, 45, 46, 47, 48, 49, 50, 51, 53, 54, 55, 56, 57, 58, 59, 60, 61, 62, 63, 64, 65, 66, 67, 68, 69, 70, 71, 72, 73, 74, 75, 76, 77, 4, 10, 8] H H' ∧ IM H' ∧ SME H H') := by
  have c0 : 0 ≤ c := by omega
  have c1 : c < 622 := by omega
  have s1 : (zSh c.toNat).1 = 2 := by rw [hc]; exact (sh_deed l0 l1).1
  have s2 : (zSh c.toNat).2.1 = 6 := by rw [hc]; exact (sh_deed l0 l1).2.1
  have w0 : ∀ X : PH, gv X c 0 = X c 0 := fun X => by rw [hc]; exact (gv_deed l0 l1).1
  have w1 : ∀ X : PH, gv X c 1 = X c 1 := fun X => by rw [hc]; exact (gv_deed l0 l1).2.1
  have w2 : ∀ X : PH, gv X c 2 = X c 2 := fun X => by rw [hc]; exact (gv_deed l0 l1).2.2.1
  have w3 : ∀ X : PH, gv X c 3 = X c 3 := fun X => by rw [hc]; exact (gv_deed l0 l1).2.2.2
  have w4 : ∀ X : PH, gv X c 4 = X c 4 := fun X => by rw [hc]; exact dg4 l0 l1
  have w5 : ∀ X : PH, gv X c 5 = X c 5 := fun X => by rw [hc]; exact dg5 l0 l1
  have z4 : zrt c.toNat 4 = none := by rw [hc]; exact (dz l0 l1).1
  have z5 : zrt c.toNat 5 = none := by rw [hc]; exact (dz l0 l1).2
  have n1 : ¬ c = 1 := by omega
  have n2 : ¬ (1 : Int) = c := by omega
  have rr := rd_deed hW l0 l1
  rw [← hc] at rr
  have t1 := (rd_law hW).1
  have t2 := (rd_deed45 hW l0 l1).1
  refine ⟨_, _, _, _, _, _, vm_X2_undo, by simp [pcat], ?_⟩
  refine tr_lab (D := 6) (t := 0) vb_X2_undo_0 _ ve_X2_undo_0 ?_
  simp (maxDischargeDepth := 12) [vb_X2_undo_0, wB, wI, k1, kI, kR, kL, k2, pget, parg, ppush, pcat, zw_lit, zw_m1, zw_m2, zw_m3, zNC_eq, zrow, pup_app, pget_pss, pget_psx, nlg_some, nlg_none, gv_1_1, gv_1_13, pe, tg_0_3, tg_0_4, tg_0_5, tg_1_1, tg_1_10, tg_1_11, tg_1_12, tg_1_13, tg_1_7, tg_1_8, tg_1_9, tg_2_0, tg_2_1, tg_2_2, tg_2_3, tg_2_5, zfit, zisI, sh_590, sh_1, c0, c1, s1, s2, w0, w1, w2, w3, w4, w5, z4, z5, n1, n2, hk, ptl, ptsw]
  repeat' (with_reducible (first | (refine And.intro ?_ ?_) | intro _))
  all_goals try (refine tr_lab (D := 6) (t := 79) vb_X2_undo_79 _ ve_X2_undo_79 ?_; simp (maxDischargeDepth := 12) [vb_X2_undo_79, wB, wI, k1, kI, kR, kL, k2, pget, parg, ppush, pcat, zw_lit, zw_m1, zw_m2, zw_m3, zNC_eq, zrow, pup_app, pget_pss, pget_psx, nlg_some, nlg_none, gv_1_1, gv_1_13, pe, tg_0_3, tg_0_4, tg_0_5, tg_1_1, tg_1_10, tg_1_11, tg_1_12, tg_1_13, tg_1_7, tg_1_8, tg_1_9, tg_2_0, tg_2_1, tg_2_2, tg_2_3, tg_2_5, zfit, zisI, sh_590, sh_1, c0, c1, s1, s2, w0, w1, w2, w3, w4, w5, z4, z5, n1, n2, hk, ptl, ptsw])
  all_goals repeat' (with_reducible (first | (refine And.intro ?_ ?_) | intro _))
  all_goals try (refine Ca_use (ca_X2_swapLaw (g := g) l c H hc hW l0 l1) (by omega) ?_; rintro _ _ ⟨rfl, rfl⟩; simp (maxDischargeDepth := 12) [wB, wI, k1, kI, kR, kL, k2, pget, parg, ppush, pcat, zw_lit, zw_m1, zw_m2, zw_m3, zNC_eq, zrow, pup_app, pget_pss, pget_psx, nlg_some, nlg_none, gv_1_1, gv_1_13, pe, tg_0_3, tg_0_4, tg_0_5, tg_1_1, tg_1_10, tg_1_11, tg_1_12, tg_1_13, tg_1_7, tg_1_8, tg_1_9, tg_2_0, tg_2_1, tg_2_2, tg_2_3, tg_2_5, zfit, zisI, sh_590, sh_1, c0, c1, s1, s2, w0, w1, w2, w3, w4, w5, z4, z5, n1, n2, hk, ptl, ptsw])
  all_goals repeat' (with_reducible (first | (refine And.intro ?_ ?_) | intro _))
  all_goals try (refine tr_lab (D := 6) (t := 243) vb_X2_undo_243 _ ve_X2_undo_243 ?_; simp (maxDischargeDepth := 12) [vb_X2_undo_243, wB, wI, k1, kI, kR, kL, k2, pget, parg, ppush, pcat, zw_lit, zw_m1, zw_m2, zw_m3, zNC_eq, zrow, pup_app, pget_pss, pget_psx, nlg_some, nlg_none, gv_1_1, gv_1_13, pe, tg_0_3, tg_0_4, tg_0_5, tg_1_1, tg_1_10, tg_1_11, tg_1_12, tg_1_13, tg_1_7, tg_1_8, tg_1_9, tg_2_0, tg_2_1, tg_2_2, tg_2_3, tg_2_5, zfit, zisI, sh_590, sh_1, c0, c1, s1, s2, w0, w1, w2, w3, w4, w5, z4, z5, n1, n2, hk, ptl, ptsw])
  all_goals repeat' (with_reducible (first | (refine And.intro ?_ ?_) | intro _))
  all_goals (first | omega | assumption | (subst hc; exact w2_deed45 4 (by omega) (w2_law5 hW t2.1 t2.2.1 t2.2.2) l0 l1 t1.1 t1.2.1 t1.2.2) | (subst hc; exact fr_deed45 4 (by omega) (ff_1_5 (frm_refl _ _) rfl) l0 l1 rfl) | (exact IM_pup (IM_pup hM (by omega)) (by omega)) | (exact SME_trans (SME_pup (by omega) (by omega) (by omega) (by omega) (by omega)) (SME_pup (by omega) (by omega) (by omega) (by omega) (by omega))) | decide | skip)

set_option maxRecDepth 20000 in
set_option maxHeartbeats 4000000 in
theorem ca_undo_7 {G : zG} {us : Nat} {g : Nat → Nat → Int} (l : Int) (c : Int) (H : PH) (hc : c = 469 + 6 * l) (hW : WT 2 g H) (hM : IM H) (l0 : 0 ≤ l) (l1 : l ≤ 19) (hk : H c 0 = 7) (ha : 0 ≤ H c 1 ∧ H c 1 ≤ 59) (hL : LOGH H) : Ca G us 7 31 [(2, c), (2, 1)] H (fun r H' => r = none ∧ WT 2 g H' ∧ frm [0, 1, 2, 3, 5, 6, 9, 11, 34, 35, 36, 37, 38, 39, 40, 41, 42, 43, 44, 45, 46, 47, 48, 49, 50, 51, 53, 54, 55, 56, 57, 58, 59, 60, 61, 62, 63, 64, 65, 66, 67, 68, 69, 70, 71, 72, 73, 74, 75, 76, 77, 4, 10, 8] H H' ∧ IM H' ∧ SME H H') := by
  have c0 : 0 ≤ c := by omega
  have c1 : c < 622 := by omega
  have s1 : (zSh c.toNat).1 = 2 := by rw [hc]; exact (sh_deed l0 l1).1
  have s2 : (zSh c.toNat).2.1 = 6 := by rw [hc]; exact (sh_deed l0 l1).2.1
  have w0 : ∀ X : PH, gv X c 0 = X c 0 := fun X => by rw [hc]; exact (gv_deed l0 l1).1
  have w1 : ∀ X : PH, gv X c 1 = X c 1 := fun X => by rw [hc]; exact (gv_deed l0 l1).2.1
  have w2 : ∀ X : PH, gv X c 2 = X c 2 := fun X => by rw [hc]; exact (gv_deed l0 l1).2.2.1
  have w3 : ∀ X : PH, gv X c 3 = X c 3 := fun X => by rw [hc]; exact (gv_deed l0 l1).2.2.2
  have w4 : ∀ X : PH, gv X c 4 = X c 4 := fun X => by rw [hc]; exact dg4 l0 l1
  have w5 : ∀ X : PH, gv X c 5 = X c 5 := fun X => by rw [hc]; exact dg5 l0 l1
  have z4 : zrt c.toNat 4 = none := by rw [hc]; exact (dz l0 l1).1
  have z5 : zrt c.toNat 5 = none := by rw [hc]; exact (dz l0 l1).2
  have n1 : ¬ c = 1 := by omega
  have n2 : ¬ (1 : Int) = c := by omega
  have rr := rd_deed hW l0 l1
  rw [← hc] at rr
  have t2 := (rd_deed45 hW l0 l1).2
  rw [← hc] at t2
  refine ⟨_, _, _, _, _, _, vm_X2_undo, by simp [pcat], ?_⟩
  refine tr_lab (D := 6) (t := 0) vb_X2_undo_0 _ ve_X2_undo_0 ?_
  simp (maxDischargeDepth := 12) [vb_X2_undo_0, wB, wI, k1, kI, kR, kL, k2, pget, parg, ppush, pcat, zw_lit, zw_m1, zw_m2, zw_m3, zNC_eq, zrow, pup_app, pget_pss, pget_psx, nlg_some, nlg_none, gv_1_1, gv_1_13, pe, tg_0_3, tg_0_4, tg_0_5, tg_1_1, tg_1_10, tg_1_11, tg_1_12, tg_1_13, tg_1_7, tg_1_8, tg_1_9, tg_2_0, tg_2_1, tg_2_2, tg_2_3, tg_2_5, zfit, zisI, sh_590, sh_1, c0, c1, s1, s2, w0, w1, w2, w3, w4, w5, z4, z5, n1, n2, hk, ptl, ptsw]
  repeat' (with_reducible (first | (refine And.intro ?_ ?_) | intro _))
  all_goals try (refine tr_lab (D := 6) (t := 160) vb_X2_undo_160 _ ve_X2_undo_160 ?_; simp (maxDischargeDepth := 12) [vb_X2_undo_160, wB, wI, k1, kI, kR, kL, k2, pget, parg, ppush, pcat, zw_lit, zw_m1, zw_m2, zw_m3, zNC_eq, zrow, pup_app, pget_pss, pget_psx, nlg_some, nlg_none, gv_1_1, gv_1_13, pe, tg_0_3, tg_0_4, tg_0_5, tg_1_1, tg_1_10, tg_1_11, tg_1_12, tg_1_13, tg_1_7, tg_1_8, tg_1_9, tg_2_0, tg_2_1, tg_2_2, tg_2_3, tg_2_5, zfit, zisI, sh_590, sh_1, c0, c1, s1, s2, w0, w1, w2, w3, w4, w5, z4, z5, n1, n2, hk, ptl, ptsw])
  all_goals repeat' (with_reducible (first | (refine And.intro ?_ ?_) | intro _))
  all_goals try (refine Ca_use (ca_back _ _ _ hW hL hM ha.1 ha.2 t2.1 t2.2.1 t2.2.2) (by omega) ?_; rintro _ _ ⟨q, rfl, q0, q1, q2, hW2, hF2, hS2, hN2, hR2, hM2⟩; simp (maxDischargeDepth := 12) [wB, wI, k1, kI, kR, kL, k2, pget, parg, ppush, pcat, zw_lit, zw_m1, zw_m2, zw_m3, zNC_eq, zrow, pup_app, pget_pss, pget_psx, nlg_some, nlg_none, gv_1_1, gv_1_13, pe, tg_0_3, tg_0_4, tg_0_5, tg_1_1, tg_1_10, tg_1_11, tg_1_12, tg_1_13, tg_1_7, tg_1_8, tg_1_9, tg_2_0, tg_2_1, tg_2_2, tg_2_3, tg_2_5, zfit, zisI, sh_590, sh_1, c0, c1, s1, s2, w0, w1, w2, w3, w4, w5, z4, z5, n1, n2, hk, ptl, ptsw])
  all_goals repeat' (with_reducible (first | (refine And.intro ?_ ?_) | intro _))
  all_goals try (refine tr_lab (D := 6) (t := 243) vb_X2_undo_243 _ ve_X2_undo_243 ?_; simp (maxDischargeDepth := 12) [vb_X2_undo_243, wB, wI, k1, kI, kR, kL, k2, pget, parg, ppush, pcat, zw_lit, zw_m1, zw_m2, zw_m3, zNC_eq, zrow, pup_app, pget_pss, pget_psx, nlg_some, nlg_none, gv_1_1, gv_1_13, pe, tg_0_3, tg_0_4, tg_0_5, tg_1_1, tg_1_10, tg_1_11, tg_1_12, tg_1_13, tg_1_7, tg_1_8, tg_1_9, tg_2_0, tg_2_1, tg_2_2, tg_2_3, tg_2_5, zfit, zisI, sh_590, sh_1, c0, c1, s1, s2, w0, w1, w2, w3, w4, w5, z4, z5, n1, n2, hk, ptl, ptsw])
  all_goals repeat' (with_reducible (first | (refine And.intro ?_ ?_) | intro _))
  all_goals (first | omega | assumption | (exact pe_R (c := q) (by omega)) | (subst hc; exact w2_deed45 5 (by omega) hW2 l0 l1 q0 q1 q2) | (subst hc; exact fr_deed45 5 (by omega) (frm_sub rfl (hF2 _ (frm_refl _ _))) l0 l1 rfl) | (exact IM_pup hM2 (by omega)) | (exact SME_trans ⟨hS2, hN2, hR2, hF2 _ (frm_refl _ _) 213 1 (by decide) rfl⟩ (SME_pup (by omega) (by omega) (by omega) (by omega) (by omega))) | decide | skip)

set_option maxRecDepth 20000 in
set_option maxHeartbeats 4000000 in
theorem ca_undo_0 {G : zG} {us : Nat} {g : Nat → Nat → Int} (l : Int) (c : Int) (H : PH) (hc : c = 469 + 6 * l) (hW : WT 2 g H) (hM : IM H) (l0 : 0 ≤ l) (l1 : l ≤ 19) (hk : H c 0 = 0) (ha : 0 ≤ H c 1 ∧ H c 1 ≤ 12) (hb : 0 ≤ H c 2 ∧ H c 2 ≤ 60) (hd : 0 ≤ H c 3 ∧ H c 3 ≤ 8) : Ca G us 7 31 [(2, c), (2, 1)] H (fun r H' => r = none ∧ WT 2 g H' ∧ frm [0, 1, 2, 3, 5, 6, 9, 11, 34, 35, 36, 37, 38, 39, 40, 41, 42, 43, 44, 45, 46, 47, 48, 49, 50, 51, 53, 54, 55, 56, 57, 58, 59, 60, 61, 62, 63, 64, 65, 66, 67, 68, 69, 70, 71, 72, 73, 74, 75, 76, 77, 4, 10, 8] H H' ∧ IM H' ∧ SC H H' ∧ H' 1 2 = H c 1 ∧ (∀ x, 0 ≤ x → x ≤ 11 → rem H' x = rem H x) ∧ H' 213 1 = H 213 1) := by
  have c0 : 0 ≤ c := by omega
  have c1 : c < 622 := by omega
  have s1 : (zSh c.toNat).1 = 2 := by rw [hc]; exact (sh_deed l0 l1).1
  have s2 : (zSh c.toNat).2.1 = 6 := by rw [hc]; exact (sh_deed l0 l1).2.1
  have w0 : ∀ X : PH, gv X c 0 = X c 0 := fun X => by rw [hc]; exact (gv_deed l0 l1).1
  have w1 : ∀ X : PH, gv X c 1 = X c 1 := fun X => by rw [hc]; exact (gv_deed l0 l1).2.1
  have w2 : ∀ X : PH, gv X c 2 = X c 2 := fun X => by rw [hc]; exact (gv_deed l0 l1).2.2.1
  have w3 : ∀ X : PH, gv X c 3 = X c 3 := fun X => by rw [hc]; exact (gv_deed l0 l1).2.2.2
  have w4 : ∀ X : PH, gv X c 4 = X c 4 := fun X => by rw [hc]; exact dg4 l0 l1
  have w5 : ∀ X : PH, gv X c 5 = X c 5 := fun X => by rw [hc]; exact dg5 l0 l1
  have z4 : zrt c.toNat 4 = none := by rw [hc]; exact (dz l0 l1).1
  have z5 : zrt c.toNat 5 = none := by rw [hc]; exact (dz l0 l1).2
  have n1 : ¬ c = 1 := by omega
  have n2 : ¬ (1 : Int) = c := by omega
  have rr := rd_deed hW l0 l1
  rw [← hc] at rr
  
  refine ⟨_, _, _, _, _, _, vm_X2_undo, by simp [pcat], ?_⟩
  refine tr_lab (D := 6) (t := 0) vb_X2_undo_0 _ ve_X2_undo_0 ?_
  simp (maxDischargeDepth := 12) [vb_X2_undo_0, wB, wI, k1, kI, kR, kL, k2, pget, parg, ppush, pcat, zw_lit, zw_m1, zw_m2, zw_m3, zNC_eq, zrow, pup_app, pget_pss, pget_psx, nlg_some, nlg_none, gv_1_1, gv_1_13, pe, tg_0_3, tg_0_4, tg_0_5, tg_1_1, tg_1_10, tg_1_11, tg_1_12, tg_1_13, tg_1_7, tg_1_8, tg_1_9, tg_2_0, tg_2_1, tg_2_2, tg_2_3, tg_2_5, zfit, zisI, sh_590, sh_1, c0, c1, s1, s2, w0, w1, w2, w3, w4, w5, z4, z5, n1, n2, hk, ptl, ptsw]
  repeat' (with_reducible (first | (refine And.intro ?_ ?_) | intro _))
  all_goals try (refine tr_lab (D := 6) (t := 60) vb_X2_undo_60 _ ve_X2_undo_60 ?_; simp (maxDischargeDepth := 12) [vb_X2_undo_60, wB, wI, k1, kI, kR, kL, k2, pget, parg, ppush, pcat, zw_lit, zw_m1, zw_m2, zw_m3, zNC_eq, zrow, pup_app, pget_pss, pget_psx, nlg_some, nlg_none, gv_1_1, gv_1_13, pe, tg_0_3, tg_0_4, tg_0_5, tg_1_1, tg_1_10, tg_1_11, tg_1_12, tg_1_13, tg_1_7, tg_1_8, tg_1_9, tg_2_0, tg_2_1, tg_2_2, tg_2_3, tg_2_5, zfit, zisI, sh_590, sh_1, c0, c1, s1, s2, w0, w1, w2, w3, w4, w5, z4, z5, n1, n2, hk, ptl, ptsw])
  all_goals repeat' (with_reducible (first | (refine And.intro ?_ ?_) | intro _))
  all_goals try (refine Ca_use (ca_X1_cutTo _ _ _ _ hW hM ha.1 ha.2 hb.1 hb.2 hd.1 hd.2) (by omega) ?_; rintro _ _ ⟨rfl, hW2, hF2, hM2, hS2, hN2, hR2, hZ2⟩; simp (maxDischargeDepth := 12) [wB, wI, k1, kI, kR, kL, k2, pget, parg, ppush, pcat, zw_lit, zw_m1, zw_m2, zw_m3, zNC_eq, zrow, pup_app, pget_pss, pget_psx, nlg_some, nlg_none, gv_1_1, gv_1_13, pe, tg_0_3, tg_0_4, tg_0_5, tg_1_1, tg_1_10, tg_1_11, tg_1_12, tg_1_13, tg_1_7, tg_1_8, tg_1_9, tg_2_0, tg_2_1, tg_2_2, tg_2_3, tg_2_5, zfit, zisI, sh_590, sh_1, c0, c1, s1, s2, w0, w1, w2, w3, w4, w5, z4, z5, n1, n2, hk, ptl, ptsw])
  all_goals repeat' (with_reducible (first | (refine And.intro ?_ ?_) | intro _))
  all_goals try (refine tr_lab (D := 6) (t := 243) vb_X2_undo_243 _ ve_X2_undo_243 ?_; simp (maxDischargeDepth := 12) [vb_X2_undo_243, wB, wI, k1, kI, kR, kL, k2, pget, parg, ppush, pcat, zw_lit, zw_m1, zw_m2, zw_m3, zNC_eq, zrow, pup_app, pget_pss, pget_psx, nlg_some, nlg_none, gv_1_1, gv_1_13, pe, tg_0_3, tg_0_4, tg_0_5, tg_1_1, tg_1_10, tg_1_11, tg_1_12, tg_1_13, tg_1_7, tg_1_8, tg_1_9, tg_2_0, tg_2_1, tg_2_2, tg_2_3, tg_2_5, zfit, zisI, sh_590, sh_1, c0, c1, s1, s2, w0, w1, w2, w3, w4, w5, z4, z5, n1, n2, hk, ptl, ptsw])
  all_goals repeat' (with_reducible (first | (refine And.intro ?_ ?_) | intro _))
  all_goals (first | omega | assumption | (exact hR2 _ (by assumption) (by assumption)) | decide | skip)

