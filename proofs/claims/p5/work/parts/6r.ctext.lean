/-! ===== text, back of the class ===== -/
theorem f213 {H H' : PH} (h : frm [3001] H H') : True := trivial
theorem text_fail {g : Nat → Nat → Int} {H H1 H2 : PH} {v : Int} (hW : WT 2 g H) (hL : LOGH H) (hG : GT H H1) (s : SC (pup H1 213 1 v) H2) (n : H2 1 2 = H 1 2) (r : ∀ x, 0 ≤ x → x ≤ 11 → rem H2 x = rem (pup H1 213 1 v) x) : LOGH H2 := by
  have hb := rf_1_2 hW
  have hG' := GT_213 (i := 1) (v := v) hG hb.2
  have h1 : LG (H 1 2) (rem H) H2 := LG_same (SC_trans hG'.1 s) hL
  have : LG (H2 1 2) (rem H2) H2 := by
    rw [n]
    exact LOK_congr (fun x x0 x1 => (r x x0 (by omega)).trans (hG'.2.2 x x0 x1)) h1
  exact this
theorem text_good {g : Nat → Nat → Int} {H H1 H2 : PH} {v a b c : Int} (hW : WT 2 g H) (hL : LOGH H) (hG : GT H H1) (hW1 : WT 2 g (pup H1 213 1 v)) (ha : H 1 2 = a) (b0 : 0 ≤ b) (b1 : b ≤ 60) (c0 : 0 ≤ c) (c1 : c ≤ 8) (hA : ∀ z i : Int, 1 ≤ z → z < 215 → H2 z i = pup H1 213 1 v z i) (hN : ∀ N R, LOK N R ((0, a, b, c) :: (lgf (ent (pup H1 213 1 v)) (pup H1 213 1 v 0 8) (pup H1 213 1 v 0 7).toNat).take 19) → LG N R H2) : LOGH H2 := by
  have hb := rf_1_2 hW
  have hG' := GT_213 (i := 1) (v := v) hG hb.2
  have hb1 := rf_1_2 hW1
  have e1 : H2 1 2 = pup H1 213 1 v 1 2 := hA 1 2 (by decide) (by decide)
  have er : ∀ x, 0 ≤ x → x ≤ 11 → rem H2 x = rem (pup H1 213 1 v) x := fun x x0 x1 => hA _ _ (by omega) (by omega)
  have : LG (H2 1 2) (rem H2) H2 := by
    refine hN _ _ ?_
    unfold LOK
    rw [if_pos rfl]
    have h1 : LG (H 1 2) (rem H) (pup H1 213 1 v) := LG_same hG'.1 hL
    refine ⟨⟨by show 0 ≤ a; omega, by show a ≤ H2 1 2; have := hG'.2.1; omega, by show a ≤ 12; omega, b0, b1, c0, c1⟩, LOK_take 19 ?_⟩
    show LOK a (rem H2) _
    rw [← ha]
    exact LOK_congr (fun x x0 x1 => (er x x0 (by omega)).trans (hG'.2.2 x x0 x1)) h1
  exact this

set_option maxRecDepth 20000 in
set_option maxHeartbeats 4000000 in
theorem ca_X11_text {G : zG} {us : Nat} {g : Nat → Nat → Int}  (H : PH) (hW : WT 2 g H) (hL : LOGH H) (hM : IM H) : Ca G us 13 107 [(2, 0)] H (fun r H' => (∃ x, r = some (0, x)) ∧ WT 2 g H' ∧ frm [0, 1, 2, 3, 5, 6, 9, 11, 34, 35, 36, 37, 38, 39, 40, 41, 42, 43, 44, 45, 46, 47, 48, 49, 50, 51, 53, 54, 55, 56, 57, 58, 59, 60, 61, 62, 63, 64, 65, 66, 67, 68, 69, 70, 71, 72, 73, 74, 75, 76, 77, 4, 10, 8] H H' ∧ LOGH H' ∧ IM H' ∧ H' 213 1 = 0) := by
  have t1 := rf_1_2 hW
  have t2 := rf_1_4 hW
  have t3 := rf_2_3 hW
  refine ⟨_, _, _, _, _, _, vm_X11_text, by simp [pcat], ?_⟩
  refine tr_lab (D := 12) (t := 0) vb_X11_text_0 _ ve_X11_text_0 ?_
  simp (maxDischargeDepth := 12) [vb_X11_text_0, wB, wI, k1, kI, kR, kL, k2, pget, parg, ppush, pcat, zw_lit, zw_m1, zw_m2, zw_m3, zNC_eq, zrow, pup_app, pget_pss, pget_psx, nlg_some, nlg_none, gv_0_0, gv_0_1, gv_1_0, gv_1_2, gv_1_4, gv_2_3, pe, tg_10_1, tg_11_0, tg_11_1, tg_1_0, tg_1_2, tg_1_4, tg_8_3, zfit, zisI, sh_590, sh_0, sh_1, sh_2, sh_213]
  repeat' (with_reducible (first | (refine And.intro ?_ ?_) | intro _))
  all_goals try (refine Ca_use (ca_X1_takeItems H hW hM) (by omega) ?_; rintro _ _ ⟨⟨x, rfl⟩, hW2, hF2, hM2, hG2⟩; simp (maxDischargeDepth := 12) [wB, wI, k1, kI, kR, kL, k2, pget, parg, ppush, pcat, zw_lit, zw_m1, zw_m2, zw_m3, zNC_eq, zrow, pup_app, pget_pss, pget_psx, nlg_some, nlg_none, gv_0_0, gv_0_1, gv_1_0, gv_1_2, gv_1_4, gv_2_3, pe, tg_10_1, tg_11_0, tg_11_1, tg_1_0, tg_1_2, tg_1_4, tg_8_3, zfit, zisI, sh_590, sh_0, sh_1, sh_2, sh_213])
  all_goals repeat' (with_reducible (first | (refine And.intro ?_ ?_) | intro _))
  all_goals try (refine Ca_use (ca_X1_cutTo _ _ _ _ (w2_213_1 hW2 (by omega) (by omega)) (IM_pup hM2 (by omega)) t1.1 t1.2 t2.1 t2.2 t3.1 t3.2) (by omega) ?_; rintro _ _ ⟨rfl, hW3, hF3, hM3, hS3, hN3, hR3, hZ3⟩; simp (maxDischargeDepth := 12) [wB, wI, k1, kI, kR, kL, k2, pget, parg, ppush, pcat, zw_lit, zw_m1, zw_m2, zw_m3, zNC_eq, zrow, pup_app, pget_pss, pget_psx, nlg_some, nlg_none, gv_0_0, gv_0_1, gv_1_0, gv_1_2, gv_1_4, gv_2_3, pe, tg_10_1, tg_11_0, tg_11_1, tg_1_0, tg_1_2, tg_1_4, tg_8_3, zfit, zisI, sh_590, sh_0, sh_1, sh_2, sh_213])
  all_goals repeat' (with_reducible (first | (refine And.intro ?_ ?_) | intro _))
  all_goals try (refine tr_lab (D := 12) (t := 66) vb_X11_text_66 _ ve_X11_text_66 ?_; simp (maxDischargeDepth := 12) [vb_X11_text_66, wB, wI, k1, kI, kR, kL, k2, pget, parg, ppush, pcat, zw_lit, zw_m1, zw_m2, zw_m3, zNC_eq, zrow, pup_app, pget_pss, pget_psx, nlg_some, nlg_none, gv_0_0, gv_0_1, gv_1_0, gv_1_2, gv_1_4, gv_2_3, pe, tg_10_1, tg_11_0, tg_11_1, tg_1_0, tg_1_2, tg_1_4, tg_8_3, zfit, zisI, sh_590, sh_0, sh_1, sh_2, sh_213])
  all_goals repeat' (with_reducible (first | (refine And.intro ?_ ?_) | intro _))
  all_goals try (refine Ca_use (ca_note 0 _ _ _ _ (w2_213_1 hW2 (by omega) (by omega)) (by omega) (by omega) (by omega) (by omega)) (by omega) ?_; rintro _ _ ⟨l, l0, l1, rfl, hW3, hF3, hA3, hG3⟩; simp (maxDischargeDepth := 12) [wB, wI, k1, kI, kR, kL, k2, pget, parg, ppush, pcat, zw_lit, zw_m1, zw_m2, zw_m3, zNC_eq, zrow, pup_app, pget_pss, pget_psx, nlg_some, nlg_none, gv_0_0, gv_0_1, gv_1_0, gv_1_2, gv_1_4, gv_2_3, pe, tg_10_1, tg_11_0, tg_11_1, tg_1_0, tg_1_2, tg_1_4, tg_8_3, zfit, zisI, sh_590, sh_0, sh_1, sh_2, sh_213])
  all_goals repeat' (with_reducible (first | (refine And.intro ?_ ?_) | intro _))
  all_goals (first | omega | assumption | (exact ⟨_, rfl⟩) | (exact frm_trans (ff_213_1 hF2 rfl) hF3) | (exact frm_trans (ff_213_1 hF2 rfl) (frm_sub rfl (hF3 _ (frm_refl _ _)))) | (exact text_fail hW hL hG2 hS3 hN3 hR3) | (exact text_good hW hL hG2 (w2_213_1 hW2 (by omega) (by omega)) rfl t2.1 t2.2 t3.1 t3.2 hA3 hG3) | (exact IM_same (w2_213_1 hW2 (by omega) (by omega)) (SM_frm (hF3 _ (frm_refl _ _)) rfl rfl rfl rfl) (IM_pup hM2 (by omega))) | (exact hZ3.trans rfl) | (rw [hA3 213 1 (by decide) (by decide)]; rfl) | skip)

