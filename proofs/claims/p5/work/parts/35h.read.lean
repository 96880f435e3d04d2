set_option maxRecDepth 20000 in
set_option maxHeartbeats 4000000 in
theorem sg_X12_readBill_131 {G : zG} {us : Nat} {lw : Int → Int} (b a : Int) (H0 : PH) (hb0 : 0 ≤ b) (hb1 : b ≤ 11) : ∀ (ls : PL) (H : PH), pnl ls → pget ls 0 = some (2, 590) → pget ls 2 = some (0, b) → pget ls 3 = some (0, 92 + 26 * b) → mA lw H → mF [591] [5, 6, 7] H0 H → H 590 4 ≤ 600 → H 590 4 = H0 590 4 → a < H 590 5 → 0 ≤ a → H 590 5 ≤ 600 → Tr G us kd_X12_readBill 4 (zget kd_X12_readBill 131) 131 ls [] H (fun r H' => H' 590 4 = H0 590 4 ∧ mA lw H' ∧ mF [591] [5, 6, 7] H0 H' ∧ (0 ≤ H' 590 5 ∧ H' 590 5 ≤ 600) ∧ (r = some (0, 0) ∨ (r = some (0, 1) ∧ a < H' 590 5))) := by
  intro ls H hnl l0 l2 l3 hA hF ht ht4 ha ha0 ha6
  refine tr_lab (D := 3) (t := 131) vb_X12_readBill_131 _ ve_X12_readBill_131 ?_
  simp (maxDischargeDepth := 12) [vb_X12_readBill_131, wB, wI, k1, kI, kR, kL, k2, pget, pget_pset, pnl_pset, pnl_cons, pnl_nil, parg, ppush, pcat, zw_lit, zw_m1, zw_m2, zw_m3, zNC_eq, zrow, pup_app, gv_590_0, gv_590_5, gv_590_7, pe, tg_12_0, tg_12_5, tg_12_7, zfit, zisI, sh_590, sh_591, hnl, l0, l2, l3]
  repeat' (with_reducible (first | (refine And.intro ?_ ?_) | intro _))
  all_goals try simp (disch := omega) [zw_lit, pup_app] at *
  all_goals try (refine Ca_use (ca_X12_takes _ _  (by first | omega | (simp (disch := omega) [pup_app, zw_lit] <;> omega)) (by first | omega | (simp (disch := omega) [pup_app, zw_lit] <;> omega)) (by omega)) (by omega) ?_; rintro _ _ (⟨rfl, rfl⟩ | ⟨rfl, hlt, rfl⟩); simp (maxDischargeDepth := 12) [wB, wI, k1, kI, kR, kL, k2, pget, pget_pset, pnl_pset, pnl_cons, pnl_nil, parg, ppush, pcat, zw_lit, zw_m1, zw_m2, zw_m3, zNC_eq, zrow, pup_app, gv_590_0, gv_590_5, gv_590_7, pe, tg_12_0, tg_12_5, tg_12_7, zfit, zisI, sh_590, sh_591, hnl, l0, l2, l3])
  all_goals repeat' (with_reducible (first | (refine And.intro ?_ ?_) | intro _))
  all_goals try simp (disch := omega) [zw_lit, pup_app] at *
  all_goals try simp (disch := omega) [zw_lit, pup_app] at *
  all_goals try (refine Ca_use (ca_X12_readCount _ _  (by first | omega | (simp (disch := omega) [pup_app, zw_lit] <;> omega)) (by first | omega | (simp (disch := omega) [pup_app, zw_lit] <;> omega)) (by first | omega | (simp (disch := omega) [pup_app, zw_lit] <;> omega)) (by omega) (by omega)) (by omega) ?_; rintro _ _ ⟨ht1, hF1, hb1, (rfl | ⟨rfl, hn0, hn1, hn2⟩)⟩; simp (maxDischargeDepth := 12) [wB, wI, k1, kI, kR, kL, k2, pget, pget_pset, pnl_pset, pnl_cons, pnl_nil, parg, ppush, pcat, zw_lit, zw_m1, zw_m2, zw_m3, zNC_eq, zrow, pup_app, gv_590_0, gv_590_5, gv_590_7, pe, tg_12_0, tg_12_5, tg_12_7, zfit, zisI, sh_590, sh_591, hnl, l0, l2, l3])
  all_goals repeat' (with_reducible (first | (refine And.intro ?_ ?_) | intro _))
  all_goals try simp (disch := omega) [zw_lit, pup_app] at *
  all_goals try simp (disch := omega) [zw_lit, pup_app] at *
  all_goals try (refine tr_lab (D := 3) (t := 148) vb_X12_readBill_148 _ ve_X12_readBill_148 ?_; simp (maxDischargeDepth := 12) [vb_X12_readBill_148, wB, wI, k1, kI, kR, kL, k2, pget, pget_pset, pnl_pset, pnl_cons, pnl_nil, parg, ppush, pcat, zw_lit, zw_m1, zw_m2, zw_m3, zNC_eq, zrow, pup_app, gv_590_0, gv_590_5, gv_590_7, pe, tg_12_0, tg_12_5, tg_12_7, zfit, zisI, sh_590, sh_591, hnl, l0, l2, l3])
  all_goals repeat' (with_reducible (first | (refine And.intro ?_ ?_) | intro _))
  all_goals try simp (disch := omega) [zw_lit, pup_app] at *
  all_goals try (refine tr_lab (D := 3) (t := 150) vb_X12_readBill_150 _ ve_X12_readBill_150 ?_; simp (maxDischargeDepth := 12) [vb_X12_readBill_150, wB, wI, k1, kI, kR, kL, k2, pget, pget_pset, pnl_pset, pnl_cons, pnl_nil, parg, ppush, pcat, zw_lit, zw_m1, zw_m2, zw_m3, zNC_eq, zrow, pup_app, gv_590_0, gv_590_5, gv_590_7, pe, tg_12_0, tg_12_5, tg_12_7, zfit, zisI, sh_590, sh_591, hnl, l0, l2, l3])
  all_goals repeat' (with_reducible (first | (refine And.intro ?_ ?_) | intro _))
  all_goals try simp (disch := omega) [zw_lit, pup_app] at *
  all_goals try (refine Ca_use (ca_X12_takes _ _  (by first | omega | (simp (disch := omega) [pup_app, zw_lit] <;> omega)) (by first | omega | (simp (disch := omega) [pup_app, zw_lit] <;> omega)) (by omega)) (by omega) ?_; rintro _ _ (⟨rfl, rfl⟩ | ⟨rfl, hlt, rfl⟩); simp (maxDischargeDepth := 12) [wB, wI, k1, kI, kR, kL, k2, pget, pget_pset, pnl_pset, pnl_cons, pnl_nil, parg, ppush, pcat, zw_lit, zw_m1, zw_m2, zw_m3, zNC_eq, zrow, pup_app, gv_590_0, gv_590_5, gv_590_7, pe, tg_12_0, tg_12_5, tg_12_7, zfit, zisI, sh_590, sh_591, hnl, l0, l2, l3])
  all_goals repeat' (with_reducible (first | (refine And.intro ?_ ?_) | intro _))
  all_goals try simp (disch := omega) [zw_lit, pup_app] at *
  all_goals try simp (disch := omega) [zw_lit, pup_app] at *
  all_goals try (refine Ca_use (ca_X12_readCount _ _  (by first | omega | (simp (disch := omega) [pup_app, zw_lit] <;> omega)) (by first | omega | (simp (disch := omega) [pup_app, zw_lit] <;> omega)) (by first | omega | (simp (disch := omega) [pup_app, zw_lit] <;> omega)) (by omega) (by omega)) (by omega) ?_; rintro _ _ ⟨ht1, hF1, hb1, (rfl | ⟨rfl, hn0, hn1, hn2⟩)⟩; simp (maxDischargeDepth := 12) [wB, wI, k1, kI, kR, kL, k2, pget, pget_pset, pnl_pset, pnl_cons, pnl_nil, parg, ppush, pcat, zw_lit, zw_m1, zw_m2, zw_m3, zNC_eq, zrow, pup_app, gv_590_0, gv_590_5, gv_590_7, pe, tg_12_0, tg_12_5, tg_12_7, zfit, zisI, sh_590, sh_591, hnl, l0, l2, l3])
  all_goals repeat' (with_reducible (first | (refine And.intro ?_ ?_) | intro _))
  all_goals try simp (disch := omega) [zw_lit, pup_app] at *
  all_goals try simp (disch := omega) [zw_lit, pup_app] at *
  all_goals try (refine tr_lab (D := 3) (t := 180) vb_X12_readBill_180 _ ve_X12_readBill_180 ?_; simp (maxDischargeDepth := 12) [vb_X12_readBill_180, wB, wI, k1, kI, kR, kL, k2, pget, pget_pset, pnl_pset, pnl_cons, pnl_nil, parg, ppush, pcat, zw_lit, zw_m1, zw_m2, zw_m3, zNC_eq, zrow, pup_app, gv_590_0, gv_590_5, gv_590_7, pe, tg_12_0, tg_12_5, tg_12_7, zfit, zisI, sh_590, sh_591, hnl, l0, l2, l3])
  all_goals repeat' (with_reducible (first | (refine And.intro ?_ ?_) | intro _))
  all_goals try simp (disch := omega) [zw_lit, pup_app] at *
  all_goals try (refine tr_lab (D := 3) (t := 182) vb_X12_readBill_182 _ ve_X12_readBill_182 ?_; simp (maxDischargeDepth := 12) [vb_X12_readBill_182, wB, wI, k1, kI, kR, kL, k2, pget, pget_pset, pnl_pset, pnl_cons, pnl_nil, parg, ppush, pcat, zw_lit, zw_m1, zw_m2, zw_m3, zNC_eq, zrow, pup_app, gv_590_0, gv_590_5, gv_590_7, pe, tg_12_0, tg_12_5, tg_12_7, zfit, zisI, sh_590, sh_591, hnl, l0, l2, l3])
  all_goals repeat' (with_reducible (first | (refine And.intro ?_ ?_) | intro _))
  all_goals try simp (disch := omega) [zw_lit, pup_app] at *
  all_goals try (refine Ca_use (ca_X12_takes _ _  (by first | omega | (simp (disch := omega) [pup_app, zw_lit] <;> omega)) (by first | omega | (simp (disch := omega) [pup_app, zw_lit] <;> omega)) (by omega)) (by omega) ?_; rintro _ _ (⟨rfl, rfl⟩ | ⟨rfl, hlt, rfl⟩); simp (maxDischargeDepth := 12) [wB, wI, k1, kI, kR, kL, k2, pget, pget_pset, pnl_pset, pnl_cons, pnl_nil, parg, ppush, pcat, zw_lit, zw_m1, zw_m2, zw_m3, zNC_eq, zrow, pup_app, gv_590_0, gv_590_5, gv_590_7, pe, tg_12_0, tg_12_5, tg_12_7, zfit, zisI, sh_590, sh_591, hnl, l0, l2, l3])
  all_goals repeat' (with_reducible (first | (refine And.intro ?_ ?_) | intro _))
  all_goals try simp (disch := omega) [zw_lit, pup_app] at *
  all_goals (first | omega | assumption | ((repeat (first | assumption | exact mF_refl | (refine mF_pup ?_ (by simp)) | (refine mF_step (by assumption) ?_ (by simp) (by simp)) | (refine mA_up ?_ (by first | (exact Or.inl (by decide)) | (exact Or.inr (by unfold mT; omega)))) | (refine mA_mF ?_ (by assumption) (by simp)))); done) | ((simp (disch := omega) only [zw_lit] at *) <;> (first | omega | assumption | ((repeat (first | assumption | exact mF_refl | (refine mF_pup ?_ (by simp)) | (refine mF_step (by assumption) ?_ (by simp) (by simp)) | (refine mA_up ?_ (by first | (exact Or.inl (by decide)) | (exact Or.inr (by unfold mT; omega)))) | (refine mA_mF ?_ (by assumption) (by simp)))); done))) | ((simp (disch := omega) [pup_app, zw_lit] at *) <;> (first | omega | assumption | ((repeat (first | assumption | exact mF_refl | (refine mF_pup ?_ (by simp)) | (refine mF_step (by assumption) ?_ (by simp) (by simp)) | (refine mA_up ?_ (by first | (exact Or.inl (by decide)) | (exact Or.inr (by unfold mT; omega)))) | (refine mA_mF ?_ (by assumption) (by simp)))); done))) | (simp only [zw]; omega))

set_option maxRecDepth 20000 in
set_option maxHeartbeats 4000000 in
theorem lp_X12_readBill_85 {G : zG} {us : Nat} {lw : Int → Int} (b a f : Int) (H0 : PH)  (hb0 : 0 ≤ b) (hb1 : b ≤ 11) : ∀ (n : Nat) (ls : PL) (H : PH) (i : Int), (12 - i).toNat < n → pnl ls → pget ls 0 = some (2, 590) → pget ls 2 = some (0, b) → pget ls 3 = some (0, 92 + 26 * b) → pget ls 4 = some (0, f) → pget ls 5 = some (0, i) → mA lw H → mF [591] [5, 6, 7] H0 H → H 590 4 ≤ 600 → H 590 4 = H0 590 4 → a < H 590 5 → 0 ≤ a → H 590 5 ≤ 600 → 0 ≤ i → Tr G us kd_X12_readBill 4 (zget kd_X12_readBill 85) 85 ls [] H (fun r H' => H' 590 4 = H0 590 4 ∧ mA lw H' ∧ mF [591] [5, 6, 7] H0 H' ∧ (0 ≤ H' 590 5 ∧ H' 590 5 ≤ 600) ∧ (r = some (0, 0) ∨ (r = some (0, 1) ∧ a < H' 590 5))) := by
  intro n
  induction n with
  | zero => intros; omega
  | succ n ih =>
    intro ls H i hn hnl l0 l2 l3 l4 l5 hA hF ht ht4 ha ha0 ha6 hi
    have hL := mA_long hA hb0 hb1
    refine tr_lab (D := 3) (t := 85) vb_X12_readBill_85 _ ve_X12_readBill_85 ?_
    simp (maxDischargeDepth := 12) [vb_X12_readBill_85, wB, wI, k1, kI, kR, kL, k2, pget, pget_pset, pnl_pset, pnl_cons, pnl_nil, parg, ppush, pcat, zw_lit, zw_m1, zw_m2, zw_m3, zNC_eq, zrow, pup_app, gv_590_0, gv_590_5, gv_590_7, pe, tg_12_0, tg_12_5, tg_12_7, zfit, zisI, sh_590, sh_591, hnl, l0, l2, l3, l4, l5]
    repeat' (with_reducible (first | (refine And.intro ?_ ?_) | intro _))
    all_goals try simp (disch := omega) [zw_lit, pup_app] at *
    all_goals try (refine Ca_use (ca_X12_billAt _ _ (by omega) (by omega)) (by omega) ?_; rintro _ _ ⟨rfl, rfl⟩; simp (maxDischargeDepth := 12) [wB, wI, k1, kI, kR, kL, k2, pget, pget_pset, pnl_pset, pnl_cons, pnl_nil, parg, ppush, pcat, zw_lit, zw_m1, zw_m2, zw_m3, zNC_eq, zrow, pup_app, gv_590_0, gv_590_5, gv_590_7, pe, tg_12_0, tg_12_5, tg_12_7, zfit, zisI, sh_590, sh_591, hnl, l0, l2, l3, l4, l5])
    all_goals repeat' (with_reducible (first | (refine And.intro ?_ ?_) | intro _))
    all_goals try simp (disch := omega) [zw_lit, pup_app] at *
    all_goals try simp (disch := omega) [zw_lit, pup_app] at *
    all_goals try (refine Ca_use (ca_X12_billAt _ _ (by omega) (by omega)) (by omega) ?_; rintro _ _ ⟨rfl, rfl⟩; simp (maxDischargeDepth := 12) [wB, wI, k1, kI, kR, kL, k2, pget, pget_pset, pnl_pset, pnl_cons, pnl_nil, parg, ppush, pcat, zw_lit, zw_m1, zw_m2, zw_m3, zNC_eq, zrow, pup_app, gv_590_0, gv_590_5, gv_590_7, pe, tg_12_0, tg_12_5, tg_12_7, zfit, zisI, sh_590, sh_591, hnl, l0, l2, l3, l4, l5])
    all_goals repeat' (with_reducible (first | (refine And.intro ?_ ?_) | intro _))
    all_goals try simp (disch := omega) [zw_lit, pup_app] at *
    all_goals try simp (disch := omega) [zw_lit, pup_app] at *
    all_goals try (refine Ca_use (ca_X12_isSame _ _ _ _ _ (by omega) (by omega) (by omega) (by omega) (by omega)) (by omega) ?_; rintro _ _ ⟨rfl, (rfl | rfl)⟩; simp (maxDischargeDepth := 12) [wB, wI, k1, kI, kR, kL, k2, pget, pget_pset, pnl_pset, pnl_cons, pnl_nil, parg, ppush, pcat, zw_lit, zw_m1, zw_m2, zw_m3, zNC_eq, zrow, pup_app, gv_590_0, gv_590_5, gv_590_7, pe, tg_12_0, tg_12_5, tg_12_7, zfit, zisI, sh_590, sh_591, hnl, l0, l2, l3, l4, l5])
    all_goals repeat' (with_reducible (first | (refine And.intro ?_ ?_) | intro _))
    all_goals try simp (disch := omega) [zw_lit, pup_app] at *
    all_goals try simp (disch := omega) [zw_lit, pup_app] at *
    all_goals try (refine Ca_use (ca_X12_fails _ _) (by omega) ?_; rintro _ _ ⟨rfl, rfl⟩; simp (maxDischargeDepth := 12) [wB, wI, k1, kI, kR, kL, k2, pget, pget_pset, pnl_pset, pnl_cons, pnl_nil, parg, ppush, pcat, zw_lit, zw_m1, zw_m2, zw_m3, zNC_eq, zrow, pup_app, gv_590_0, gv_590_5, gv_590_7, pe, tg_12_0, tg_12_5, tg_12_7, zfit, zisI, sh_590, sh_591, hnl, l0, l2, l3, l4, l5])
    all_goals repeat' (with_reducible (first | (refine And.intro ?_ ?_) | intro _))
    all_goals try simp (disch := omega) [zw_lit, pup_app] at *
    all_goals try simp (disch := omega) [zw_lit, pup_app] at *
    all_goals try (refine tr_lab (D := 3) (t := 125) vb_X12_readBill_125 _ ve_X12_readBill_125 ?_; simp (maxDischargeDepth := 12) [vb_X12_readBill_125, wB, wI, k1, kI, kR, kL, k2, pget, pget_pset, pnl_pset, pnl_cons, pnl_nil, parg, ppush, pcat, zw_lit, zw_m1, zw_m2, zw_m3, zNC_eq, zrow, pup_app, gv_590_0, gv_590_5, gv_590_7, pe, tg_12_0, tg_12_5, tg_12_7, zfit, zisI, sh_590, sh_591, hnl, l0, l2, l3, l4, l5])
    all_goals repeat' (with_reducible (first | (refine And.intro ?_ ?_) | intro _))
    all_goals try ((refine sg_X12_readBill_131 b a H0 hb0 hb1 _ _ ?_ ?_ ?_ ?_ ?_ ?_ ?_ ?_ ?_ ?_ ?_) <;> (try simp (maxDischargeDepth := 12) [pget_pset, pnl_pset, pnl_cons, pnl_nil, pget, pup_app, *]))
    all_goals try (refine ih _ _ (i + 1) ?_ ?_ ?_ ?_ ?_ ?_ ?_ ?_ ?_ ?_ ?_ ?_ ?_ ?_ ?_)
    all_goals try simp (maxDischargeDepth := 12) [pget_pset, pnl_pset, pnl_cons, pnl_nil, pget, hnl, pup_app, l0, l2, l3, l4, l5]
    all_goals (first | omega | assumption | ((repeat (first | assumption | exact mF_refl | (refine mF_pup ?_ (by simp)) | (refine mF_step (by assumption) ?_ (by simp) (by simp)) | (refine mA_up ?_ (by first | (exact Or.inl (by decide)) | (exact Or.inr (by unfold mT; omega)))) | (refine mA_mF ?_ (by assumption) (by simp)))); done) | ((simp (disch := omega) only [zw_lit] at *) <;> (first | omega | assumption | ((repeat (first | assumption | exact mF_refl | (refine mF_pup ?_ (by simp)) | (refine mF_step (by assumption) ?_ (by simp) (by simp)) | (refine mA_up ?_ (by first | (exact Or.inl (by decide)) | (exact Or.inr (by unfold mT; omega)))) | (refine mA_mF ?_ (by assumption) (by simp)))); done))) | ((simp (disch := omega) [pup_app, zw_lit] at *) <;> (first | omega | assumption | ((repeat (first | assumption | exact mF_refl | (refine mF_pup ?_ (by simp)) | (refine mF_step (by assumption) ?_ (by simp) (by simp)) | (refine mA_up ?_ (by first | (exact Or.inl (by decide)) | (exact Or.inr (by unfold mT; omega)))) | (refine mA_mF ?_ (by assumption) (by simp)))); done))) | (simp only [zw]; omega))

set_option maxRecDepth 20000 in
set_option maxHeartbeats 4000000 in
theorem lp_X12_readBill_43 {G : zG} {us : Nat} {lw : Int → Int} (b a f : Int) (H0 : PH)  (hb0 : 0 ≤ b) (hb1 : b ≤ 11) : ∀ (n : Nat) (ls : PL) (H : PH) (i : Int), (26 - i).toNat < n → pnl ls → pget ls 0 = some (2, 590) → pget ls 2 = some (0, b) → pget ls 3 = some (0, 92 + 26 * b) → pget ls 4 = some (0, f) → pget ls 5 = some (0, i) → mA lw H → mF [591] [5, 6, 7] H0 H → H 590 4 ≤ 600 → H 590 4 = H0 590 4 → a < H 590 5 → 0 ≤ a → H 590 5 ≤ 600 → 0 ≤ i → Tr G us kd_X12_readBill 4 (zget kd_X12_readBill 43) 43 ls [] H (fun r H' => H' 590 4 = H0 590 4 ∧ mA lw H' ∧ mF [591] [5, 6, 7] H0 H' ∧ (0 ≤ H' 590 5 ∧ H' 590 5 ≤ 600) ∧ (r = some (0, 0) ∨ (r = some (0, 1) ∧ a < H' 590 5))) := by
  intro n
  induction n with
  | zero => intros; omega
  | succ n ih =>
    intro ls H i hn hnl l0 l2 l3 l4 l5 hA hF ht ht4 ha ha0 ha6 hi
    refine tr_lab (D := 3) (t := 43) vb_X12_readBill_43 _ ve_X12_readBill_43 ?_
    simp (maxDischargeDepth := 12) [vb_X12_readBill_43, wB, wI, k1, kI, kR, kL, k2, pget, pget_pset, pnl_pset, pnl_cons, pnl_nil, parg, ppush, pcat, zw_lit, zw_m1, zw_m2, zw_m3, zNC_eq, zrow, pup_app, gv_590_0, gv_590_5, gv_590_7, pe, tg_12_0, tg_12_5, tg_12_7, zfit, zisI, sh_590, sh_591, hnl, l0, l2, l3, l4, l5]
    repeat' (with_reducible (first | (refine And.intro ?_ ?_) | intro _))
    all_goals try simp (disch := omega) [zw_lit, pup_app] at *
    all_goals try (refine tr_lab (D := 3) (t := 66) vb_X12_readBill_66 _ ve_X12_readBill_66 ?_; simp (maxDischargeDepth := 12) [vb_X12_readBill_66, wB, wI, k1, kI, kR, kL, k2, pget, pget_pset, pnl_pset, pnl_cons, pnl_nil, parg, ppush, pcat, zw_lit, zw_m1, zw_m2, zw_m3, zNC_eq, zrow, pup_app, gv_590_0, gv_590_5, gv_590_7, pe, tg_12_0, tg_12_5, tg_12_7, zfit, zisI, sh_590, sh_591, hnl, l0, l2, l3, l4, l5])
    all_goals repeat' (with_reducible (first | (refine And.intro ?_ ?_) | intro _))
    all_goals try simp (disch := omega) [zw_lit, pup_app] at *
    all_goals try (refine Ca_use (ca_X12_readMark (lw := lw) _ _ _ _  (by first | omega | (simp (disch := omega) [pup_app, zw_lit] <;> omega)) (by first | omega | (simp (disch := omega) [pup_app, zw_lit] <;> omega)) (by first | omega | (simp (disch := omega) [pup_app, zw_lit] <;> omega)) (by repeat (first | assumption | (refine mA_up ?_ (by first | (exact Or.inl (by decide)) | (exact Or.inr (by unfold mT; omega)))))) (by omega) (by omega) (by intro x hx0 hx1; unfold mT; omega) (by omega) (by omega) (by intro j x hj0 hj1; unfold mT; omega)) (by omega) ?_; rintro _ _ ⟨ht2, hA2, hF2, hb2, (rfl | rfl)⟩; simp (maxDischargeDepth := 12) [wB, wI, k1, kI, kR, kL, k2, pget, pget_pset, pnl_pset, pnl_cons, pnl_nil, parg, ppush, pcat, zw_lit, zw_m1, zw_m2, zw_m3, zNC_eq, zrow, pup_app, gv_590_0, gv_590_5, gv_590_7, pe, tg_12_0, tg_12_5, tg_12_7, zfit, zisI, sh_590, sh_591, hnl, l0, l2, l3, l4, l5])
    all_goals repeat' (with_reducible (first | (refine And.intro ?_ ?_) | intro _))
    all_goals try simp (disch := omega) [zw_lit, pup_app] at *
    all_goals try simp (disch := omega) [zw_lit, pup_app] at *
    all_goals try (refine tr_lab (D := 3) (t := 82) vb_X12_readBill_82 _ ve_X12_readBill_82 ?_; simp (maxDischargeDepth := 12) [vb_X12_readBill_82, wB, wI, k1, kI, kR, kL, k2, pget, pget_pset, pnl_pset, pnl_cons, pnl_nil, parg, ppush, pcat, zw_lit, zw_m1, zw_m2, zw_m3, zNC_eq, zrow, pup_app, gv_590_0, gv_590_5, gv_590_7, pe, tg_12_0, tg_12_5, tg_12_7, zfit, zisI, sh_590, sh_591, hnl, l0, l2, l3, l4, l5])
    all_goals repeat' (with_reducible (first | (refine And.intro ?_ ?_) | intro _))
    all_goals try ((refine lp_X12_readBill_85 b a f H0 hb0 hb1 13 _ _ 0 ?_ ?_ ?_ ?_ ?_ ?_ ?_ ?_ ?_ ?_ ?_ ?_ ?_ ?_ ?_) <;> (try simp (maxDischargeDepth := 12) [pget_pset, pnl_pset, pnl_cons, pnl_nil, pget, pup_app, *]))
    all_goals try (refine ih _ _ (i + 1) ?_ ?_ ?_ ?_ ?_ ?_ ?_ ?_ ?_ ?_ ?_ ?_ ?_ ?_ ?_)
    all_goals try simp (maxDischargeDepth := 12) [pget_pset, pnl_pset, pnl_cons, pnl_nil, pget, hnl, pup_app, l0, l2, l3, l4, l5]
    all_goals (first | omega | assumption | ((repeat (first | assumption | exact mF_refl | (refine mF_pup ?_ (by simp)) | (refine mF_step (by assumption) ?_ (by simp) (by simp)) | (refine mA_up ?_ (by first | (exact Or.inl (by decide)) | (exact Or.inr (by unfold mT; omega)))) | (refine mA_mF ?_ (by assumption) (by simp)))); done) | ((simp (disch := omega) only [zw_lit] at *) <;> (first | omega | assumption | ((repeat (first | assumption | exact mF_refl | (refine mF_pup ?_ (by simp)) | (refine mF_step (by assumption) ?_ (by simp) (by simp)) | (refine mA_up ?_ (by first | (exact Or.inl (by decide)) | (exact Or.inr (by unfold mT; omega)))) | (refine mA_mF ?_ (by assumption) (by simp)))); done))) | ((simp (disch := omega) [pup_app, zw_lit] at *) <;> (first | omega | assumption | ((repeat (first | assumption | exact mF_refl | (refine mF_pup ?_ (by simp)) | (refine mF_step (by assumption) ?_ (by simp) (by simp)) | (refine mA_up ?_ (by first | (exact Or.inl (by decide)) | (exact Or.inr (by unfold mT; omega)))) | (refine mA_mF ?_ (by assumption) (by simp)))); done))) | (simp only [zw]; omega))

set_option maxRecDepth 20000 in
set_option maxHeartbeats 4000000 in
theorem ca_X12_readBill {G : zG} {us : Nat} {lw : Int → Int} (z : Int) (H : PH) (ha0 : 0 ≤ H 590 5) (ht : H 590 4 ≤ 600) (hA : mA lw H) (hlt0 : H 590 5 < H 590 4) : Ca G us 4 177 [(2, 590), (0, z)] H (fun r H' => H' 590 4 = H 590 4 ∧ mA lw H' ∧ mF [591] [5, 6, 7] H H' ∧ (0 ≤ H' 590 5 ∧ H' 590 5 ≤ 600) ∧ (r = some (0, 0) ∨ (r = some (0, 1) ∧ H 590 5 < H' 590 5))) := by
  have h591_0 := mA_0 hA
  have h591_1 := mA_1 hA
  have h591_2 := mA_2 hA
  refine ⟨_, _, _, _, _, _, vm_X12_readBill, by simp [pcat], ?_⟩
  refine tr_lab (D := 3) (t := 0) vb_X12_readBill_0 _ ve_X12_readBill_0 ?_
  simp (maxDischargeDepth := 12) [vb_X12_readBill_0, wB, wI, k1, kI, kR, kL, k2, pget, pget_pset, pnl_pset, pnl_cons, pnl_nil, parg, ppush, pcat, zw_lit, zw_m1, zw_m2, zw_m3, zNC_eq, zrow, pup_app, gv_590_0, gv_590_5, gv_590_7, pe, tg_12_0, tg_12_5, tg_12_7, zfit, zisI, sh_590, sh_591]
  repeat' (with_reducible (first | (refine And.intro ?_ ?_) | intro _))
  all_goals try simp (disch := omega) [zw_lit, pup_app] at *
  all_goals try (refine Ca_use (ca_X12_fails _ _) (by omega) ?_; rintro _ _ ⟨rfl, rfl⟩; simp (maxDischargeDepth := 12) [wB, wI, k1, kI, kR, kL, k2, pget, pget_pset, pnl_pset, pnl_cons, pnl_nil, parg, ppush, pcat, zw_lit, zw_m1, zw_m2, zw_m3, zNC_eq, zrow, pup_app, gv_590_0, gv_590_5, gv_590_7, pe, tg_12_0, tg_12_5, tg_12_7, zfit, zisI, sh_590, sh_591])
  all_goals repeat' (with_reducible (first | (refine And.intro ?_ ?_) | intro _))
  all_goals try simp (disch := omega) [zw_lit, pup_app] at *
  all_goals try simp (disch := omega) [zw_lit, pup_app] at *
  all_goals try (refine tr_lab (D := 3) (t := 19) vb_X12_readBill_19 _ ve_X12_readBill_19 ?_; simp (maxDischargeDepth := 12) [vb_X12_readBill_19, wB, wI, k1, kI, kR, kL, k2, pget, pget_pset, pnl_pset, pnl_cons, pnl_nil, parg, ppush, pcat, zw_lit, zw_m1, zw_m2, zw_m3, zNC_eq, zrow, pup_app, gv_590_0, gv_590_5, gv_590_7, pe, tg_12_0, tg_12_5, tg_12_7, zfit, zisI, sh_590, sh_591])
  all_goals repeat' (with_reducible (first | (refine And.intro ?_ ?_) | intro _))
  all_goals try simp (disch := omega) [zw_lit, pup_app] at *
  all_goals try (refine Ca_use (ca_X12_billAt _ _ (by omega) (by omega)) (by omega) ?_; rintro _ _ ⟨rfl, rfl⟩; simp (maxDischargeDepth := 12) [wB, wI, k1, kI, kR, kL, k2, pget, pget_pset, pnl_pset, pnl_cons, pnl_nil, parg, ppush, pcat, zw_lit, zw_m1, zw_m2, zw_m3, zNC_eq, zrow, pup_app, gv_590_0, gv_590_5, gv_590_7, pe, tg_12_0, tg_12_5, tg_12_7, zfit, zisI, sh_590, sh_591])
  all_goals repeat' (with_reducible (first | (refine And.intro ?_ ?_) | intro _))
  all_goals try simp (disch := omega) [zw_lit, pup_app] at *
  all_goals try ((refine lp_X12_readBill_43 (H 591 0) (H 590 5) (H 590 5 + 1) H (by omega) (by omega) 27 _ _ 0 ?_ ?_ ?_ ?_ ?_ ?_ ?_ ?_ ?_ ?_ ?_ ?_ ?_ ?_ ?_) <;> (try simp (maxDischargeDepth := 12) [pget_pset, pnl_pset, pnl_cons, pnl_nil, pget, pup_app, *]))
  all_goals (first | omega | assumption | ((repeat (first | assumption | exact mF_refl | (refine mF_pup ?_ (by simp)) | (refine mF_step (by assumption) ?_ (by simp) (by simp)) | (refine mA_up ?_ (by first | (exact Or.inl (by decide)) | (exact Or.inr (by unfold mT; omega)))) | (refine mA_mF ?_ (by assumption) (by simp)))); done) | ((simp (disch := omega) only [zw_lit] at *) <;> (first | omega | assumption | ((repeat (first | assumption | exact mF_refl | (refine mF_pup ?_ (by simp)) | (refine mF_step (by assumption) ?_ (by simp) (by simp)) | (refine mA_up ?_ (by first | (exact Or.inl (by decide)) | (exact Or.inr (by unfold mT; omega)))) | (refine mA_mF ?_ (by assumption) (by simp)))); done))) | ((simp (disch := omega) [pup_app, zw_lit] at *) <;> (first | omega | assumption | ((repeat (first | assumption | exact mF_refl | (refine mF_pup ?_ (by simp)) | (refine mF_step (by assumption) ?_ (by simp) (by simp)) | (refine mA_up ?_ (by first | (exact Or.inl (by decide)) | (exact Or.inr (by unfold mT; omega)))) | (refine mA_mF ?_ (by assumption) (by simp)))); done))) | (simp only [zw]; omega))
