set_option maxRecDepth 20000 in
set_option maxHeartbeats 4000000 in
theorem lp_X12_readText_10 {G : zG} {us : Nat} {lw : Int → Int} (H0 : PH)   : ∀ (n : Nat) (ls : PL) (H : PH), (600 - H 590 5).toNat < n → pnl ls → pget ls 0 = some (2, 590) → mA lw H → mF [591] [5, 6, 7] H0 H → H 590 4 ≤ 600 → H 590 4 = H0 590 4 → 0 ≤ H 590 5 → H 590 5 ≤ 600 → Tr G us kd_X12_readText 5 (zget kd_X12_readText 10) 10 ls [] H (fun r H' => H' 590 4 = H0 590 4 ∧ mA lw H' ∧ mF [591] [5, 6, 7] H0 H' ∧ (0 ≤ H' 590 5 ∧ H' 590 5 ≤ 600) ∧ (r = some (0, 0) ∨ r = some (0, 1))) := by
  intro n
  induction n with
  | zero => intros; omega
  | succ n ih =>
    intro ls H hn hnl l0 hA hF ht ht4 ha0 ha6
    refine tr_lab (D := 4) (t := 10) vb_X12_readText_10 _ ve_X12_readText_10 ?_
    simp (maxDischargeDepth := 12) [vb_X12_readText_10, wB, wI, k1, kI, kR, kL, k2, pget, pget_pset, pnl_pset, pnl_cons, pnl_nil, parg, ppush, pcat, zw_lit, zw_m1, zw_m2, zw_m3, zNC_eq, zrow, pup_app, gv_590_4, gv_590_5, pe, tg_12_4, tg_12_5, tg_12_6, zfit, zisI, sh_590, sh_591, hnl, l0]
    repeat' (with_reducible (first | (refine And.intro ?_ ?_) | intro _))
    all_goals try simp (disch := omega) [zw_lit, pup_app] at *
    all_goals try (refine Ca_use (ca_X12_here _  (by first | omega | (simp (disch := omega) [pup_app, zw_lit] <;> omega)) (by first | omega | (simp (disch := omega) [pup_app, zw_lit] <;> omega))) (by omega) ?_; rintro _ _ ⟨rfl, rfl, hx⟩; simp (maxDischargeDepth := 12) [wB, wI, k1, kI, kR, kL, k2, pget, pget_pset, pnl_pset, pnl_cons, pnl_nil, parg, ppush, pcat, zw_lit, zw_m1, zw_m2, zw_m3, zNC_eq, zrow, pup_app, gv_590_4, gv_590_5, pe, tg_12_4, tg_12_5, tg_12_6, zfit, zisI, sh_590, sh_591, hnl, l0])
    all_goals repeat' (with_reducible (first | (refine And.intro ?_ ?_) | intro _))
    all_goals try simp (disch := omega) [zw_lit, pup_app] at *
    all_goals try simp (disch := omega) [zw_lit, pup_app] at *
    all_goals try (refine Ca_use (ca_X12_readBill (lw := lw) _ _ (by first | omega | (simp (disch := omega) [pup_app, zw_lit] <;> omega)) (by first | omega | (simp (disch := omega) [pup_app, zw_lit] <;> omega)) (by assumption) (by first | omega | (simp (disch := omega) [pup_app, zw_lit] <;> omega))) (by omega) ?_; rintro _ _ ⟨ht3, hA3, hF3, hb3, (rfl | ⟨rfl, hp3⟩)⟩; simp (maxDischargeDepth := 12) [wB, wI, k1, kI, kR, kL, k2, pget, pget_pset, pnl_pset, pnl_cons, pnl_nil, parg, ppush, pcat, zw_lit, zw_m1, zw_m2, zw_m3, zNC_eq, zrow, pup_app, gv_590_4, gv_590_5, pe, tg_12_4, tg_12_5, tg_12_6, zfit, zisI, sh_590, sh_591, hnl, l0])
    all_goals repeat' (with_reducible (first | (refine And.intro ?_ ?_) | intro _))
    all_goals try simp (disch := omega) [zw_lit, pup_app] at *
    all_goals try simp (disch := omega) [zw_lit, pup_app] at *
    all_goals try (refine tr_lab (D := 4) (t := 43) vb_X12_readText_43 _ ve_X12_readText_43 ?_; simp (maxDischargeDepth := 12) [vb_X12_readText_43, wB, wI, k1, kI, kR, kL, k2, pget, pget_pset, pnl_pset, pnl_cons, pnl_nil, parg, ppush, pcat, zw_lit, zw_m1, zw_m2, zw_m3, zNC_eq, zrow, pup_app, gv_590_4, gv_590_5, pe, tg_12_4, tg_12_5, tg_12_6, zfit, zisI, sh_590, sh_591, hnl, l0])
    all_goals repeat' (with_reducible (first | (refine And.intro ?_ ?_) | intro _))
    all_goals try simp (disch := omega) [zw_lit, pup_app] at *
    all_goals try (refine Ca_use (ca_X12_readCouple (lw := lw) _ _ (by first | omega | (simp (disch := omega) [pup_app, zw_lit] <;> omega)) (by first | omega | (simp (disch := omega) [pup_app, zw_lit] <;> omega)) (by assumption) (by first | omega | (simp (disch := omega) [pup_app, zw_lit] <;> omega))) (by omega) ?_; rintro _ _ ⟨ht3, hA3, hF3, hb3, (rfl | ⟨rfl, hp3⟩)⟩; simp (maxDischargeDepth := 12) [wB, wI, k1, kI, kR, kL, k2, pget, pget_pset, pnl_pset, pnl_cons, pnl_nil, parg, ppush, pcat, zw_lit, zw_m1, zw_m2, zw_m3, zNC_eq, zrow, pup_app, gv_590_4, gv_590_5, pe, tg_12_4, tg_12_5, tg_12_6, zfit, zisI, sh_590, sh_591, hnl, l0])
    all_goals repeat' (with_reducible (first | (refine And.intro ?_ ?_) | intro _))
    all_goals try simp (disch := omega) [zw_lit, pup_app] at *
    all_goals try simp (disch := omega) [zw_lit, pup_app] at *
    all_goals try (refine tr_lab (D := 4) (t := 60) vb_X12_readText_60 _ ve_X12_readText_60 ?_; simp (maxDischargeDepth := 12) [vb_X12_readText_60, wB, wI, k1, kI, kR, kL, k2, pget, pget_pset, pnl_pset, pnl_cons, pnl_nil, parg, ppush, pcat, zw_lit, zw_m1, zw_m2, zw_m3, zNC_eq, zrow, pup_app, gv_590_4, gv_590_5, pe, tg_12_4, tg_12_5, tg_12_6, zfit, zisI, sh_590, sh_591, hnl, l0])
    all_goals repeat' (with_reducible (first | (refine And.intro ?_ ?_) | intro _))
    all_goals try simp (disch := omega) [zw_lit, pup_app] at *
    all_goals try (refine Ca_use (ca_X12_readLine (lw := lw) _ _ (by first | omega | (simp (disch := omega) [pup_app, zw_lit] <;> omega)) (by first | omega | (simp (disch := omega) [pup_app, zw_lit] <;> omega)) (by assumption) (by first | omega | (simp (disch := omega) [pup_app, zw_lit] <;> omega))) (by omega) ?_; rintro _ _ ⟨ht3, hA3, hF3, hb3, (rfl | ⟨rfl, hp3⟩)⟩; simp (maxDischargeDepth := 12) [wB, wI, k1, kI, kR, kL, k2, pget, pget_pset, pnl_pset, pnl_cons, pnl_nil, parg, ppush, pcat, zw_lit, zw_m1, zw_m2, zw_m3, zNC_eq, zrow, pup_app, gv_590_4, gv_590_5, pe, tg_12_4, tg_12_5, tg_12_6, zfit, zisI, sh_590, sh_591, hnl, l0])
    all_goals repeat' (with_reducible (first | (refine And.intro ?_ ?_) | intro _))
    all_goals try simp (disch := omega) [zw_lit, pup_app] at *
    all_goals try simp (disch := omega) [zw_lit, pup_app] at *
    all_goals try (refine tr_lab (D := 4) (t := 77) vb_X12_readText_77 _ ve_X12_readText_77 ?_; simp (maxDischargeDepth := 12) [vb_X12_readText_77, wB, wI, k1, kI, kR, kL, k2, pget, pget_pset, pnl_pset, pnl_cons, pnl_nil, parg, ppush, pcat, zw_lit, zw_m1, zw_m2, zw_m3, zNC_eq, zrow, pup_app, gv_590_4, gv_590_5, pe, tg_12_4, tg_12_5, tg_12_6, zfit, zisI, sh_590, sh_591, hnl, l0])
    all_goals repeat' (with_reducible (first | (refine And.intro ?_ ?_) | intro _))
    all_goals try simp (disch := omega) [zw_lit, pup_app] at *
    all_goals try (refine Ca_use (ca_X12_fails _ _) (by omega) ?_; rintro _ _ ⟨rfl, rfl⟩; simp (maxDischargeDepth := 12) [wB, wI, k1, kI, kR, kL, k2, pget, pget_pset, pnl_pset, pnl_cons, pnl_nil, parg, ppush, pcat, zw_lit, zw_m1, zw_m2, zw_m3, zNC_eq, zrow, pup_app, gv_590_4, gv_590_5, pe, tg_12_4, tg_12_5, tg_12_6, zfit, zisI, sh_590, sh_591, hnl, l0])
    all_goals repeat' (with_reducible (first | (refine And.intro ?_ ?_) | intro _))
    all_goals try simp (disch := omega) [zw_lit, pup_app] at *
    all_goals try simp (disch := omega) [zw_lit, pup_app] at *
    all_goals try (refine tr_lab (D := 4) (t := 85) vb_X12_readText_85 _ ve_X12_readText_85 ?_; simp (maxDischargeDepth := 12) [vb_X12_readText_85, wB, wI, k1, kI, kR, kL, k2, pget, pget_pset, pnl_pset, pnl_cons, pnl_nil, parg, ppush, pcat, zw_lit, zw_m1, zw_m2, zw_m3, zNC_eq, zrow, pup_app, gv_590_4, gv_590_5, pe, tg_12_4, tg_12_5, tg_12_6, zfit, zisI, sh_590, sh_591, hnl, l0])
    all_goals repeat' (with_reducible (first | (refine And.intro ?_ ?_) | intro _))
    all_goals try simp (disch := omega) [zw_lit, pup_app] at *
    all_goals try (refine tr_lab (D := 4) (t := 92) vb_X12_readText_92 _ ve_X12_readText_92 ?_; simp (maxDischargeDepth := 12) [vb_X12_readText_92, wB, wI, k1, kI, kR, kL, k2, pget, pget_pset, pnl_pset, pnl_cons, pnl_nil, parg, ppush, pcat, zw_lit, zw_m1, zw_m2, zw_m3, zNC_eq, zrow, pup_app, gv_590_4, gv_590_5, pe, tg_12_4, tg_12_5, tg_12_6, zfit, zisI, sh_590, sh_591, hnl, l0])
    all_goals repeat' (with_reducible (first | (refine And.intro ?_ ?_) | intro _))
    all_goals try simp (disch := omega) [zw_lit, pup_app] at *
    all_goals try (refine tr_lab (D := 4) (t := 95) vb_X12_readText_95 _ ve_X12_readText_95 ?_; simp (maxDischargeDepth := 12) [vb_X12_readText_95, wB, wI, k1, kI, kR, kL, k2, pget, pget_pset, pnl_pset, pnl_cons, pnl_nil, parg, ppush, pcat, zw_lit, zw_m1, zw_m2, zw_m3, zNC_eq, zrow, pup_app, gv_590_4, gv_590_5, pe, tg_12_4, tg_12_5, tg_12_6, zfit, zisI, sh_590, sh_591, hnl, l0])
    all_goals repeat' (with_reducible (first | (refine And.intro ?_ ?_) | intro _))
    all_goals try (refine ih _ _ ?_ ?_ ?_ ?_ ?_ ?_ ?_ ?_ ?_)
    all_goals try simp (maxDischargeDepth := 12) [pget_pset, pnl_pset, pnl_cons, pnl_nil, pget, hnl, pup_app, l0]
    all_goals (first | omega | assumption | ((repeat (first | assumption | exact mF_refl | (refine mF_pup ?_ (by simp)) | (refine mF_step (by assumption) ?_ (by simp) (by simp)) | (refine mA_up ?_ (by first | (exact Or.inl (by decide)) | (exact Or.inr (by unfold mT; omega)))) | (refine mA_mF ?_ (by assumption) (by simp)))); done) | ((simp (disch := omega) only [zw_lit] at *) <;> (first | omega | assumption | ((repeat (first | assumption | exact mF_refl | (refine mF_pup ?_ (by simp)) | (refine mF_step (by assumption) ?_ (by simp) (by simp)) | (refine mA_up ?_ (by first | (exact Or.inl (by decide)) | (exact Or.inr (by unfold mT; omega)))) | (refine mA_mF ?_ (by assumption) (by simp)))); done))) | ((simp (disch := omega) [pup_app, zw_lit] at *) <;> (first | omega | assumption | ((repeat (first | assumption | exact mF_refl | (refine mF_pup ?_ (by simp)) | (refine mF_step (by assumption) ?_ (by simp) (by simp)) | (refine mA_up ?_ (by first | (exact Or.inl (by decide)) | (exact Or.inr (by unfold mT; omega)))) | (refine mA_mF ?_ (by assumption) (by simp)))); done))) | (simp only [zw]; omega))

set_option maxRecDepth 20000 in
set_option maxHeartbeats 4000000 in
theorem ca_X12_readText {G : zG} {us : Nat} {lw : Int → Int}  (H : PH) (ht : H 590 4 ≤ 600) (hA : mA lw H) : Ca G us 5 180 [(2, 590)] H (fun r H' => H' 590 4 = H 590 4 ∧ mA lw H' ∧ mF [591] [5, 6, 7] H H' ∧ (0 ≤ H' 590 5 ∧ H' 590 5 ≤ 600) ∧ (r = some (0, 0) ∨ r = some (0, 1))) := by
  refine ⟨_, _, _, _, _, _, vm_X12_readText, by simp [pcat], ?_⟩
  refine tr_lab (D := 4) (t := 0) vb_X12_readText_0 _ ve_X12_readText_0 ?_
  simp (maxDischargeDepth := 12) [vb_X12_readText_0, wB, wI, k1, kI, kR, kL, k2, pget, pget_pset, pnl_pset, pnl_cons, pnl_nil, parg, ppush, pcat, zw_lit, zw_m1, zw_m2, zw_m3, zNC_eq, zrow, pup_app, gv_590_4, gv_590_5, pe, tg_12_4, tg_12_5, tg_12_6, zfit, zisI, sh_590]
  repeat' (with_reducible (first | (refine And.intro ?_ ?_) | intro _))
  all_goals try ((refine lp_X12_readText_10 H 601 _ _ ?_ ?_ ?_ ?_ ?_ ?_ ?_ ?_ ?_) <;> (try simp (maxDischargeDepth := 12) [pget_pset, pnl_pset, pnl_cons, pnl_nil, pget, pup_app, *]))
  all_goals (first | omega | assumption | ((repeat (first | assumption | exact mF_refl | (refine mF_pup ?_ (by simp)) | (refine mF_step (by assumption) ?_ (by simp) (by simp)) | (refine mA_up ?_ (by first | (exact Or.inl (by decide)) | (exact Or.inr (by unfold mT; omega)))) | (refine mA_mF ?_ (by assumption) (by simp)))); done) | ((simp (disch := omega) only [zw_lit] at *) <;> (first | omega | assumption | ((repeat (first | assumption | exact mF_refl | (refine mF_pup ?_ (by simp)) | (refine mF_step (by assumption) ?_ (by simp) (by simp)) | (refine mA_up ?_ (by first | (exact Or.inl (by decide)) | (exact Or.inr (by unfold mT; omega)))) | (refine mA_mF ?_ (by assumption) (by simp)))); done))) | ((simp (disch := omega) [pup_app, zw_lit] at *) <;> (first | omega | assumption | ((repeat (first | assumption | exact mF_refl | (refine mF_pup ?_ (by simp)) | (refine mF_step (by assumption) ?_ (by simp) (by simp)) | (refine mA_up ?_ (by first | (exact Or.inl (by decide)) | (exact Or.inr (by unfold mT; omega)))) | (refine mA_mF ?_ (by assumption) (by simp)))); done))) | (simp only [zw]; omega))
