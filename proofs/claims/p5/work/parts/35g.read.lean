set_option maxRecDepth 20000 in
set_option maxHeartbeats 4000000 in
theorem ca_X12_readLine {G : zG} {us : Nat} {lw : Int → Int} (z : Int) (H : PH) (ha0 : 0 ≤ H 590 5) (ht : H 590 4 ≤ 600) (hA : mA lw H) (hlt0 : H 590 5 < H 590 4) : Ca G us 4 179 [(2, 590), (0, z)] H (fun r H' => H' 590 4 = H 590 4 ∧ mA lw H' ∧ mF [591] [5, 6, 7] H H' ∧ (0 ≤ H' 590 5 ∧ H' 590 5 ≤ 600) ∧ (r = some (0, 0) ∨ (r = some (0, 1) ∧ H 590 5 < H' 590 5))) := by
  have h591_0 := mA_0 hA
  have h591_1 := mA_1 hA
  have h591_2 := mA_2 hA
  refine ⟨_, _, _, _, _, _, vm_X12_readLine, by simp [pcat], ?_⟩
  refine tr_lab (D := 3) (t := 0) vb_X12_readLine_0 _ ve_X12_readLine_0 ?_
  simp (maxDischargeDepth := 12) [vb_X12_readLine_0, wB, wI, k1, kI, kR, kL, k2, pget, pget_pset, pnl_pset, pnl_cons, pnl_nil, parg, ppush, pcat, zw_lit, zw_m1, zw_m2, zw_m3, zNC_eq, zrow, pup_app, gv_590_0, gv_590_5, gv_590_7, pe, tg_12_0, tg_12_5, tg_12_7, zfit, zisI, sh_590, sh_591]
  repeat' (with_reducible (first | (refine And.intro ?_ ?_) | intro _))
  all_goals try simp (disch := omega) [zw_lit, pup_app] at *
  all_goals try (refine Ca_use (ca_X12_fails _ _) (by omega) ?_; rintro _ _ ⟨rfl, rfl⟩; simp (maxDischargeDepth := 12) [wB, wI, k1, kI, kR, kL, k2, pget, pget_pset, pnl_pset, pnl_cons, pnl_nil, parg, ppush, pcat, zw_lit, zw_m1, zw_m2, zw_m3, zNC_eq, zrow, pup_app, gv_590_0, gv_590_5, gv_590_7, pe, tg_12_0, tg_12_5, tg_12_7, zfit, zisI, sh_590, sh_591])
  all_goals repeat' (with_reducible (first | (refine And.intro ?_ ?_) | intro _))
  all_goals try simp (disch := omega) [zw_lit, pup_app] at *
  all_goals try simp (disch := omega) [zw_lit, pup_app] at *
  all_goals try (refine tr_lab (D := 3) (t := 19) vb_X12_readLine_19 _ ve_X12_readLine_19 ?_; simp (maxDischargeDepth := 12) [vb_X12_readLine_19, wB, wI, k1, kI, kR, kL, k2, pget, pget_pset, pnl_pset, pnl_cons, pnl_nil, parg, ppush, pcat, zw_lit, zw_m1, zw_m2, zw_m3, zNC_eq, zrow, pup_app, gv_590_0, gv_590_5, gv_590_7, pe, tg_12_0, tg_12_5, tg_12_7, zfit, zisI, sh_590, sh_591])
  all_goals repeat' (with_reducible (first | (refine And.intro ?_ ?_) | intro _))
  all_goals try simp (disch := omega) [zw_lit, pup_app] at *
  all_goals try (refine Ca_use (ca_X12_lineAt _ _ (by omega) (by omega)) (by omega) ?_; rintro _ _ ⟨rfl, rfl⟩; simp (maxDischargeDepth := 12) [wB, wI, k1, kI, kR, kL, k2, pget, pget_pset, pnl_pset, pnl_cons, pnl_nil, parg, ppush, pcat, zw_lit, zw_m1, zw_m2, zw_m3, zNC_eq, zrow, pup_app, gv_590_0, gv_590_5, gv_590_7, pe, tg_12_0, tg_12_5, tg_12_7, zfit, zisI, sh_590, sh_591])
  all_goals repeat' (with_reducible (first | (refine And.intro ?_ ?_) | intro _))
  all_goals try simp (disch := omega) [zw_lit, pup_app] at *
  all_goals try simp (disch := omega) [zw_lit, pup_app] at *
  all_goals try (refine Ca_use (ca_X12_readOne _ _  (by first | omega | (simp (disch := omega) [pup_app, zw_lit] <;> omega)) (by first | omega | (simp (disch := omega) [pup_app, zw_lit] <;> omega)) (by omega) (by omega)) (by omega) ?_; rintro _ _ (⟨rfl, rfl⟩ | ⟨rfl, hlt, y, hy0, hy1, rfl⟩); simp (maxDischargeDepth := 12) [wB, wI, k1, kI, kR, kL, k2, pget, pget_pset, pnl_pset, pnl_cons, pnl_nil, parg, ppush, pcat, zw_lit, zw_m1, zw_m2, zw_m3, zNC_eq, zrow, pup_app, gv_590_0, gv_590_5, gv_590_7, pe, tg_12_0, tg_12_5, tg_12_7, zfit, zisI, sh_590, sh_591])
  all_goals repeat' (with_reducible (first | (refine And.intro ?_ ?_) | intro _))
  all_goals try simp (disch := omega) [zw_lit, pup_app] at *
  all_goals try simp (disch := omega) [zw_lit, pup_app] at *
  all_goals try (refine tr_lab (D := 3) (t := 44) vb_X12_readLine_44 _ ve_X12_readLine_44 ?_; simp (maxDischargeDepth := 12) [vb_X12_readLine_44, wB, wI, k1, kI, kR, kL, k2, pget, pget_pset, pnl_pset, pnl_cons, pnl_nil, parg, ppush, pcat, zw_lit, zw_m1, zw_m2, zw_m3, zNC_eq, zrow, pup_app, gv_590_0, gv_590_5, gv_590_7, pe, tg_12_0, tg_12_5, tg_12_7, zfit, zisI, sh_590, sh_591])
  all_goals repeat' (with_reducible (first | (refine And.intro ?_ ?_) | intro _))
  all_goals try simp (disch := omega) [zw_lit, pup_app] at *
  all_goals try (refine Ca_use (ca_X12_takes _ _  (by first | omega | (simp (disch := omega) [pup_app, zw_lit] <;> omega)) (by first | omega | (simp (disch := omega) [pup_app, zw_lit] <;> omega)) (by omega)) (by omega) ?_; rintro _ _ (⟨rfl, rfl⟩ | ⟨rfl, hlt, rfl⟩); simp (maxDischargeDepth := 12) [wB, wI, k1, kI, kR, kL, k2, pget, pget_pset, pnl_pset, pnl_cons, pnl_nil, parg, ppush, pcat, zw_lit, zw_m1, zw_m2, zw_m3, zNC_eq, zrow, pup_app, gv_590_0, gv_590_5, gv_590_7, pe, tg_12_0, tg_12_5, tg_12_7, zfit, zisI, sh_590, sh_591])
  all_goals repeat' (with_reducible (first | (refine And.intro ?_ ?_) | intro _))
  all_goals try simp (disch := omega) [zw_lit, pup_app] at *
  all_goals try simp (disch := omega) [zw_lit, pup_app] at *
  all_goals try (refine Ca_use (ca_X12_readOne _ _  (by first | omega | (simp (disch := omega) [pup_app, zw_lit] <;> omega)) (by first | omega | (simp (disch := omega) [pup_app, zw_lit] <;> omega)) (by omega) (by omega)) (by omega) ?_; rintro _ _ (⟨rfl, rfl⟩ | ⟨rfl, hlt, y, hy0, hy1, rfl⟩); simp (maxDischargeDepth := 12) [wB, wI, k1, kI, kR, kL, k2, pget, pget_pset, pnl_pset, pnl_cons, pnl_nil, parg, ppush, pcat, zw_lit, zw_m1, zw_m2, zw_m3, zNC_eq, zrow, pup_app, gv_590_0, gv_590_5, gv_590_7, pe, tg_12_0, tg_12_5, tg_12_7, zfit, zisI, sh_590, sh_591])
  all_goals repeat' (with_reducible (first | (refine And.intro ?_ ?_) | intro _))
  all_goals try simp (disch := omega) [zw_lit, pup_app] at *
  all_goals try simp (disch := omega) [zw_lit, pup_app] at *
  all_goals try (refine tr_lab (D := 3) (t := 73) vb_X12_readLine_73 _ ve_X12_readLine_73 ?_; simp (maxDischargeDepth := 12) [vb_X12_readLine_73, wB, wI, k1, kI, kR, kL, k2, pget, pget_pset, pnl_pset, pnl_cons, pnl_nil, parg, ppush, pcat, zw_lit, zw_m1, zw_m2, zw_m3, zNC_eq, zrow, pup_app, gv_590_0, gv_590_5, gv_590_7, pe, tg_12_0, tg_12_5, tg_12_7, zfit, zisI, sh_590, sh_591])
  all_goals repeat' (with_reducible (first | (refine And.intro ?_ ?_) | intro _))
  all_goals try simp (disch := omega) [zw_lit, pup_app] at *
  all_goals try (refine tr_lab (D := 3) (t := 75) vb_X12_readLine_75 _ ve_X12_readLine_75 ?_; simp (maxDischargeDepth := 12) [vb_X12_readLine_75, wB, wI, k1, kI, kR, kL, k2, pget, pget_pset, pnl_pset, pnl_cons, pnl_nil, parg, ppush, pcat, zw_lit, zw_m1, zw_m2, zw_m3, zNC_eq, zrow, pup_app, gv_590_0, gv_590_5, gv_590_7, pe, tg_12_0, tg_12_5, tg_12_7, zfit, zisI, sh_590, sh_591])
  all_goals repeat' (with_reducible (first | (refine And.intro ?_ ?_) | intro _))
  all_goals try simp (disch := omega) [zw_lit, pup_app] at *
  all_goals try (refine Ca_use (ca_X12_takes _ _  (by first | omega | (simp (disch := omega) [pup_app, zw_lit] <;> omega)) (by first | omega | (simp (disch := omega) [pup_app, zw_lit] <;> omega)) (by omega)) (by omega) ?_; rintro _ _ (⟨rfl, rfl⟩ | ⟨rfl, hlt, rfl⟩); simp (maxDischargeDepth := 12) [wB, wI, k1, kI, kR, kL, k2, pget, pget_pset, pnl_pset, pnl_cons, pnl_nil, parg, ppush, pcat, zw_lit, zw_m1, zw_m2, zw_m3, zNC_eq, zrow, pup_app, gv_590_0, gv_590_5, gv_590_7, pe, tg_12_0, tg_12_5, tg_12_7, zfit, zisI, sh_590, sh_591])
  all_goals repeat' (with_reducible (first | (refine And.intro ?_ ?_) | intro _))
  all_goals try simp (disch := omega) [zw_lit, pup_app] at *
  all_goals try simp (disch := omega) [zw_lit, pup_app] at *
  all_goals try (refine Ca_use (ca_X12_readMark (lw := lw) _ _ _ _  (by first | omega | (simp (disch := omega) [pup_app, zw_lit] <;> omega)) (by first | omega | (simp (disch := omega) [pup_app, zw_lit] <;> omega)) (by first | omega | (simp (disch := omega) [pup_app, zw_lit] <;> omega)) (by repeat (first | assumption | (refine mA_up ?_ (by first | (exact Or.inl (by decide)) | (exact Or.inr (by unfold mT; omega)))))) (by omega) (by omega) (by intro x hx0 hx1; unfold mT; omega) (by omega) (by omega) (by intro j x hj0 hj1; unfold mT; omega)) (by omega) ?_; rintro _ _ ⟨ht2, hA2, hF2, hb2, (rfl | rfl)⟩; simp (maxDischargeDepth := 12) [wB, wI, k1, kI, kR, kL, k2, pget, pget_pset, pnl_pset, pnl_cons, pnl_nil, parg, ppush, pcat, zw_lit, zw_m1, zw_m2, zw_m3, zNC_eq, zrow, pup_app, gv_590_0, gv_590_5, gv_590_7, pe, tg_12_0, tg_12_5, tg_12_7, zfit, zisI, sh_590, sh_591])
  all_goals repeat' (with_reducible (first | (refine And.intro ?_ ?_) | intro _))
  all_goals try simp (disch := omega) [zw_lit, pup_app] at *
  all_goals try simp (disch := omega) [zw_lit, pup_app] at *
  all_goals try (refine Ca_use (ca_X12_takes _ _  (by first | omega | (simp (disch := omega) [pup_app, zw_lit] <;> omega)) (by first | omega | (simp (disch := omega) [pup_app, zw_lit] <;> omega)) (by omega)) (by omega) ?_; rintro _ _ (⟨rfl, rfl⟩ | ⟨rfl, hlt, rfl⟩); simp (maxDischargeDepth := 12) [wB, wI, k1, kI, kR, kL, k2, pget, pget_pset, pnl_pset, pnl_cons, pnl_nil, parg, ppush, pcat, zw_lit, zw_m1, zw_m2, zw_m3, zNC_eq, zrow, pup_app, gv_590_0, gv_590_5, gv_590_7, pe, tg_12_0, tg_12_5, tg_12_7, zfit, zisI, sh_590, sh_591])
  all_goals repeat' (with_reducible (first | (refine And.intro ?_ ?_) | intro _))
  all_goals try simp (disch := omega) [zw_lit, pup_app] at *
  all_goals try simp (disch := omega) [zw_lit, pup_app] at *
  all_goals try (refine Ca_use (ca_X12_readCount _ _  (by first | omega | (simp (disch := omega) [pup_app, zw_lit] <;> omega)) (by first | omega | (simp (disch := omega) [pup_app, zw_lit] <;> omega)) (by first | omega | (simp (disch := omega) [pup_app, zw_lit] <;> omega)) (by omega) (by omega)) (by omega) ?_; rintro _ _ ⟨ht1, hF1, hb1, (rfl | ⟨rfl, hn0, hn1, hn2⟩)⟩; simp (maxDischargeDepth := 12) [wB, wI, k1, kI, kR, kL, k2, pget, pget_pset, pnl_pset, pnl_cons, pnl_nil, parg, ppush, pcat, zw_lit, zw_m1, zw_m2, zw_m3, zNC_eq, zrow, pup_app, gv_590_0, gv_590_5, gv_590_7, pe, tg_12_0, tg_12_5, tg_12_7, zfit, zisI, sh_590, sh_591])
  all_goals repeat' (with_reducible (first | (refine And.intro ?_ ?_) | intro _))
  all_goals try simp (disch := omega) [zw_lit, pup_app] at *
  all_goals try simp (disch := omega) [zw_lit, pup_app] at *
  all_goals try (refine tr_lab (D := 3) (t := 127) vb_X12_readLine_127 _ ve_X12_readLine_127 ?_; simp (maxDischargeDepth := 12) [vb_X12_readLine_127, wB, wI, k1, kI, kR, kL, k2, pget, pget_pset, pnl_pset, pnl_cons, pnl_nil, parg, ppush, pcat, zw_lit, zw_m1, zw_m2, zw_m3, zNC_eq, zrow, pup_app, gv_590_0, gv_590_5, gv_590_7, pe, tg_12_0, tg_12_5, tg_12_7, zfit, zisI, sh_590, sh_591])
  all_goals repeat' (with_reducible (first | (refine And.intro ?_ ?_) | intro _))
  all_goals try simp (disch := omega) [zw_lit, pup_app] at *
  all_goals try (refine tr_lab (D := 3) (t := 129) vb_X12_readLine_129 _ ve_X12_readLine_129 ?_; simp (maxDischargeDepth := 12) [vb_X12_readLine_129, wB, wI, k1, kI, kR, kL, k2, pget, pget_pset, pnl_pset, pnl_cons, pnl_nil, parg, ppush, pcat, zw_lit, zw_m1, zw_m2, zw_m3, zNC_eq, zrow, pup_app, gv_590_0, gv_590_5, gv_590_7, pe, tg_12_0, tg_12_5, tg_12_7, zfit, zisI, sh_590, sh_591])
  all_goals repeat' (with_reducible (first | (refine And.intro ?_ ?_) | intro _))
  all_goals try simp (disch := omega) [zw_lit, pup_app] at *
  all_goals try (refine Ca_use (ca_X12_takes _ _  (by first | omega | (simp (disch := omega) [pup_app, zw_lit] <;> omega)) (by first | omega | (simp (disch := omega) [pup_app, zw_lit] <;> omega)) (by omega)) (by omega) ?_; rintro _ _ (⟨rfl, rfl⟩ | ⟨rfl, hlt, rfl⟩); simp (maxDischargeDepth := 12) [wB, wI, k1, kI, kR, kL, k2, pget, pget_pset, pnl_pset, pnl_cons, pnl_nil, parg, ppush, pcat, zw_lit, zw_m1, zw_m2, zw_m3, zNC_eq, zrow, pup_app, gv_590_0, gv_590_5, gv_590_7, pe, tg_12_0, tg_12_5, tg_12_7, zfit, zisI, sh_590, sh_591])
  all_goals repeat' (with_reducible (first | (refine And.intro ?_ ?_) | intro _))
  all_goals try simp (disch := omega) [zw_lit, pup_app] at *
  all_goals (first | omega | assumption | ((repeat (first | assumption | exact mF_refl | (refine mF_pup ?_ (by simp)) | (refine mF_step (by assumption) ?_ (by simp) (by simp)) | (refine mA_up ?_ (by first | (exact Or.inl (by decide)) | (exact Or.inr (by unfold mT; omega)))) | (refine mA_mF ?_ (by assumption) (by simp)))); done) | ((simp (disch := omega) only [zw_lit] at *) <;> (first | omega | assumption | ((repeat (first | assumption | exact mF_refl | (refine mF_pup ?_ (by simp)) | (refine mF_step (by assumption) ?_ (by simp) (by simp)) | (refine mA_up ?_ (by first | (exact Or.inl (by decide)) | (exact Or.inr (by unfold mT; omega)))) | (refine mA_mF ?_ (by assumption) (by simp)))); done))) | ((simp (disch := omega) [pup_app, zw_lit] at *) <;> (first | omega | assumption | ((repeat (first | assumption | exact mF_refl | (refine mF_pup ?_ (by simp)) | (refine mF_step (by assumption) ?_ (by simp) (by simp)) | (refine mA_up ?_ (by first | (exact Or.inl (by decide)) | (exact Or.inr (by unfold mT; omega)))) | (refine mA_mF ?_ (by assumption) (by simp)))); done))) | (simp only [zw]; omega))
