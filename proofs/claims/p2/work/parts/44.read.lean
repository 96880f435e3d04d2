theorem mA_sg {H : PH} (h : mA H) {s n v w : Int} (hs : ∀ j x : Int, 0 ≤ j → j < 8 → mT (s + j) x) (h0 : 0 ≤ n) (h1 : n < 8) (hs0 : 0 ≤ s) (hs1 : s ≤ 1116) : mA (pup (pup H 591 (zw (s + n)) v) 590 5 w) := by
  rw [zw_lit (by omega) (by omega)]
  exact mA_up (mA_up h (Or.inr (hs n v h0 h1))) (Or.inl (by decide))
theorem mA_ln {H : PH} (h : mA H) {l n : Int} (hl : ∀ x : Int, 0 ≤ x → x ≤ 8 → mT l x) (h0 : 0 ≤ n) (h1 : n ≤ 8) : mA (pup H 591 l n) := mA_up h (Or.inr (hl n h0 h1))
set_option maxRecDepth 20000 in
set_option maxHeartbeats 4000000 in
theorem lp_X12_readMark_3 {G : zG} {us : Nat} (l s w a : Int) (H0 : PH)  (hl0 : 0 ≤ l) (hl1 : l ≤ 1123) (hl : ∀ x : Int, 0 ≤ x → x ≤ 8 → mT l x) (hs0 : 0 ≤ s) (hs1 : s ≤ 1116) (hs : ∀ j x : Int, 0 ≤ j → j < 8 → mT (s + j) x) : ∀ (n : Nat) (ls : PL) (H : PH) (n1 : Int), (9 - n1).toNat < n → pnl ls → pget ls 0 = some (2, 590) → pget ls 1 = some (0, l) → pget ls 2 = some (0, s) → pget ls 3 = some (0, w) → pget ls 4 = some (0, n1) → MR H → mA H → mF [591] [5, 6] H0 H → H 590 4 ≤ 600 → H 590 4 = H0 590 4 → a ≤ H 590 5 → 0 ≤ a → H 590 5 ≤ 600 → 0 ≤ n1 → n1 ≤ 8 → Tr G us kd_X12_readMark 3 (zget kd_X12_readMark 3) 3 ls [] H (fun r H' => (MR H' ∧ H' 590 4 = H0 590 4) ∧ mA H' ∧ mF [591] [5, 6] H0 H' ∧ (a ≤ H' 590 5 ∧ H' 590 5 ≤ 600) ∧ (r = some (0, 0) ∨ r = some (0, 1))) := by
  intro n
  induction n with
  | zero => intros; omega
  | succ n ih =>
    intro ls H n1 hn hnl l0 l1 l2 l3 l4 hR hA hF ht ht4 ha ha0 ha6 hn0 hn8
    refine tr_lab (D := 2) (t := 3) vb_X12_readMark_3 _ ve_X12_readMark_3 ?_
    simp (maxDischargeDepth := 12) [vb_X12_readMark_3, wB, wI, k1, kI, kR, kL, k2, pget, pget_pset, pnl_pset, pnl_cons, pnl_nil, parg, ppush, pcat, zw_lit, zw_m1, zw_m2, zw_m3, zNC_eq, zrow, pup_app, pe, tg_12_0, tg_12_5, zfit, zisI, sh_590, sh_591, MR_0 hR, hnl, l0, l1, l2, l3, l4]
    repeat' (with_reducible (first | (refine And.intro ?_ ?_) | intro _))
    all_goals try (refine Ca_use (ca_X12_here _ (by repeat (first | assumption | (refine MR_up ?_ (by simp)))) (by (try simp [pup_app]); omega) (by (try simp [pup_app]); omega)) (by omega) ?_; rintro _ _ ⟨rfl, rfl, hx⟩; simp (maxDischargeDepth := 12) [wB, wI, k1, kI, kR, kL, k2, pget, pget_pset, pnl_pset, pnl_cons, pnl_nil, parg, ppush, pcat, zw_lit, zw_m1, zw_m2, zw_m3, zNC_eq, zrow, pup_app, pe, tg_12_0, tg_12_5, zfit, zisI, sh_590, sh_591, MR_0 hR, hnl, l0, l1, l2, l3, l4])
    all_goals repeat' (with_reducible (first | (refine And.intro ?_ ?_) | intro _))
    all_goals try (refine Ca_use (ca_X12_isSign _ _) (by omega) ?_; rintro _ _ ⟨rfl, rfl⟩; simp (maxDischargeDepth := 12) [wB, wI, k1, kI, kR, kL, k2, pget, pget_pset, pnl_pset, pnl_cons, pnl_nil, parg, ppush, pcat, zw_lit, zw_m1, zw_m2, zw_m3, zNC_eq, zrow, pup_app, pe, tg_12_0, tg_12_5, zfit, zisI, sh_590, sh_591, MR_0 hR, hnl, l0, l1, l2, l3, l4])
    all_goals repeat' (with_reducible (first | (refine And.intro ?_ ?_) | intro _))
    all_goals try (refine Ca_use (ca_X12_here _ (by repeat (first | assumption | (refine MR_up ?_ (by simp)))) (by (try simp [pup_app]); omega) (by (try simp [pup_app]); omega)) (by omega) ?_; rintro _ _ ⟨rfl, rfl, hx⟩; simp (maxDischargeDepth := 12) [wB, wI, k1, kI, kR, kL, k2, pget, pget_pset, pnl_pset, pnl_cons, pnl_nil, parg, ppush, pcat, zw_lit, zw_m1, zw_m2, zw_m3, zNC_eq, zrow, pup_app, pe, tg_12_0, tg_12_5, zfit, zisI, sh_590, sh_591, MR_0 hR, hnl, l0, l1, l2, l3, l4])
    all_goals repeat' (with_reducible (first | (refine And.intro ?_ ?_) | intro _))
    all_goals try (refine tr_lab (D := 2) (t := 26) vb_X12_readMark_26 _ ve_X12_readMark_26 ?_; simp (maxDischargeDepth := 12) [vb_X12_readMark_26, wB, wI, k1, kI, kR, kL, k2, pget, pget_pset, pnl_pset, pnl_cons, pnl_nil, parg, ppush, pcat, zw_lit, zw_m1, zw_m2, zw_m3, zNC_eq, zrow, pup_app, pe, tg_12_0, tg_12_5, zfit, zisI, sh_590, sh_591, MR_0 hR, hnl, l0, l1, l2, l3, l4])
    all_goals repeat' (with_reducible (first | (refine And.intro ?_ ?_) | intro _))
    all_goals try (refine Ca_use (ca_X12_fails _ _) (by omega) ?_; rintro _ _ ⟨rfl, rfl⟩; simp (maxDischargeDepth := 12) [wB, wI, k1, kI, kR, kL, k2, pget, pget_pset, pnl_pset, pnl_cons, pnl_nil, parg, ppush, pcat, zw_lit, zw_m1, zw_m2, zw_m3, zNC_eq, zrow, pup_app, pe, tg_12_0, tg_12_5, zfit, zisI, sh_590, sh_591, MR_0 hR, hnl, l0, l1, l2, l3, l4])
    all_goals repeat' (with_reducible (first | (refine And.intro ?_ ?_) | intro _))
    all_goals try (refine tr_lab (D := 2) (t := 42) vb_X12_readMark_42 _ ve_X12_readMark_42 ?_; simp (maxDischargeDepth := 12) [vb_X12_readMark_42, wB, wI, k1, kI, kR, kL, k2, pget, pget_pset, pnl_pset, pnl_cons, pnl_nil, parg, ppush, pcat, zw_lit, zw_m1, zw_m2, zw_m3, zNC_eq, zrow, pup_app, pe, tg_12_0, tg_12_5, zfit, zisI, sh_590, sh_591, MR_0 hR, hnl, l0, l1, l2, l3, l4])
    all_goals repeat' (with_reducible (first | (refine And.intro ?_ ?_) | intro _))
    all_goals try (refine Ca_use (ca_X12_here _ (by repeat (first | assumption | (refine MR_up ?_ (by simp)))) (by (try simp [pup_app]); omega) (by (try simp [pup_app]); omega)) (by omega) ?_; rintro _ _ ⟨rfl, rfl, hx⟩; simp (maxDischargeDepth := 12) [wB, wI, k1, kI, kR, kL, k2, pget, pget_pset, pnl_pset, pnl_cons, pnl_nil, parg, ppush, pcat, zw_lit, zw_m1, zw_m2, zw_m3, zNC_eq, zrow, pup_app, pe, tg_12_0, tg_12_5, zfit, zisI, sh_590, sh_591, MR_0 hR, hnl, l0, l1, l2, l3, l4])
    all_goals repeat' (with_reducible (first | (refine And.intro ?_ ?_) | intro _))
    all_goals try (refine tr_lab (D := 2) (t := 71) vb_X12_readMark_71 _ ve_X12_readMark_71 ?_; simp (maxDischargeDepth := 12) [vb_X12_readMark_71, wB, wI, k1, kI, kR, kL, k2, pget, pget_pset, pnl_pset, pnl_cons, pnl_nil, parg, ppush, pcat, zw_lit, zw_m1, zw_m2, zw_m3, zNC_eq, zrow, pup_app, pe, tg_12_0, tg_12_5, zfit, zisI, sh_590, sh_591, MR_0 hR, hnl, l0, l1, l2, l3, l4])
    all_goals repeat' (with_reducible (first | (refine And.intro ?_ ?_) | intro _))
    all_goals try (refine Ca_use (ca_X12_fails _ _) (by omega) ?_; rintro _ _ ⟨rfl, rfl⟩; simp (maxDischargeDepth := 12) [wB, wI, k1, kI, kR, kL, k2, pget, pget_pset, pnl_pset, pnl_cons, pnl_nil, parg, ppush, pcat, zw_lit, zw_m1, zw_m2, zw_m3, zNC_eq, zrow, pup_app, pe, tg_12_0, tg_12_5, zfit, zisI, sh_590, sh_591, MR_0 hR, hnl, l0, l1, l2, l3, l4])
    all_goals repeat' (with_reducible (first | (refine And.intro ?_ ?_) | intro _))
    all_goals try (refine tr_lab (D := 2) (t := 95) vb_X12_readMark_95 _ ve_X12_readMark_95 ?_; simp (maxDischargeDepth := 12) [vb_X12_readMark_95, wB, wI, k1, kI, kR, kL, k2, pget, pget_pset, pnl_pset, pnl_cons, pnl_nil, parg, ppush, pcat, zw_lit, zw_m1, zw_m2, zw_m3, zNC_eq, zrow, pup_app, pe, tg_12_0, tg_12_5, zfit, zisI, sh_590, sh_591, MR_0 hR, hnl, l0, l1, l2, l3, l4])
    all_goals repeat' (with_reducible (first | (refine And.intro ?_ ?_) | intro _))
    all_goals try (refine tr_lab (D := 2) (t := 99) vb_X12_readMark_99 _ ve_X12_readMark_99 ?_; simp (maxDischargeDepth := 12) [vb_X12_readMark_99, wB, wI, k1, kI, kR, kL, k2, pget, pget_pset, pnl_pset, pnl_cons, pnl_nil, parg, ppush, pcat, zw_lit, zw_m1, zw_m2, zw_m3, zNC_eq, zrow, pup_app, pe, tg_12_0, tg_12_5, zfit, zisI, sh_590, sh_591, MR_0 hR, hnl, l0, l1, l2, l3, l4])
    all_goals repeat' (with_reducible (first | (refine And.intro ?_ ?_) | intro _))
    all_goals try (refine tr_lab (D := 2) (t := 100) vb_X12_readMark_100 _ ve_X12_readMark_100 ?_; simp (maxDischargeDepth := 12) [vb_X12_readMark_100, wB, wI, k1, kI, kR, kL, k2, pget, pget_pset, pnl_pset, pnl_cons, pnl_nil, parg, ppush, pcat, zw_lit, zw_m1, zw_m2, zw_m3, zNC_eq, zrow, pup_app, pe, tg_12_0, tg_12_5, zfit, zisI, sh_590, sh_591, MR_0 hR, hnl, l0, l1, l2, l3, l4])
    all_goals repeat' (with_reducible (first | (refine And.intro ?_ ?_) | intro _))
    all_goals try (refine ih _ _ (n1 + 1) ?_ ?_ ?_ ?_ ?_ ?_ ?_ ?_ ?_ ?_ ?_ ?_ ?_ ?_ ?_ ?_ ?_)
    all_goals try simp (maxDischargeDepth := 12) [pget_pset, pnl_pset, pnl_cons, pnl_nil, pget, hnl, pup_app, l0, l1, l2, l3, l4]
    all_goals (first | (exact mA_sg (by assumption) hs (by omega) (by omega) (by omega) (by omega)) | (exact mA_ln (by assumption) hl (by omega) (by omega)) | (exact mA_up (mA_ln (by assumption) hl (by omega) (by omega)) (Or.inl (by decide))) | first | omega | assumption | ((repeat (first | assumption | exact mF_refl | (refine MR_up ?_ (by simp)) | (refine mF_pup ?_ (by simp)))); done) | ((simp (disch := omega) only [zw_lit] at *) <;> (first | omega | assumption)) | ((simp (disch := omega) [pup_app, zw_lit] at *) <;> (first | omega | assumption)) | (simp only [zw]; omega))

set_option maxRecDepth 20000 in
set_option maxHeartbeats 4000000 in
theorem ca_X12_readMark {G : zG} {us : Nat} (l s w : Int) (H : PH) (hR : MR H) (ha0 : 0 ≤ H 590 5) (ht : H 590 4 ≤ 600) (ha1 : H 590 5 ≤ 600) (hA : mA H) (hl0 : 0 ≤ l) (hl1 : l ≤ 1123) (hl : ∀ x : Int, 0 ≤ x → x ≤ 8 → mT l x) (hs0 : 0 ≤ s) (hs1 : s ≤ 1116) (hs : ∀ j x : Int, 0 ≤ j → j < 8 → mT (s + j) x) : Ca G us 3 172 [(2, 590), (0, l), (0, s), (0, w)] H (fun r H' => (MR H' ∧ H' 590 4 = H 590 4) ∧ mA H' ∧ mF [591] [5, 6] H H' ∧ (H 590 5 ≤ H' 590 5 ∧ H' 590 5 ≤ 600) ∧ (r = some (0, 0) ∨ r = some (0, 1))) := by
  refine ⟨_, _, _, _, _, _, vm_X12_readMark, by simp [pcat], ?_⟩
  refine tr_lab (D := 2) (t := 0) vb_X12_readMark_0 _ ve_X12_readMark_0 ?_
  simp (maxDischargeDepth := 12) [vb_X12_readMark_0, wB, wI, k1, kI, kR, kL, k2, pget, pget_pset, pnl_pset, pnl_cons, pnl_nil, parg, ppush, pcat, zw_lit, zw_m1, zw_m2, zw_m3, zNC_eq, zrow, pup_app, pe, tg_12_0, tg_12_5, zfit, zisI, sh_590]
  repeat' (with_reducible (first | (refine And.intro ?_ ?_) | intro _))
  all_goals try ((refine lp_X12_readMark_3 l s w (H 590 5) H hl0 hl1 hl hs0 hs1 hs 10 _ _ 0 ?_ ?_ ?_ ?_ ?_ ?_ ?_ ?_ ?_ ?_ ?_ ?_ ?_ ?_ ?_ ?_ ?_) <;> (try simp [pget_pset, pnl_pset, pnl_cons, pnl_nil, pget, pup_app]))
  all_goals (first | (exact mA_sg (by assumption) hs (by omega) (by omega) (by omega) (by omega)) | (exact mA_ln (by assumption) hl (by omega) (by omega)) | (exact mA_up (mA_ln (by assumption) hl (by omega) (by omega)) (Or.inl (by decide))) | first | omega | assumption | ((repeat (first | assumption | exact mF_refl | (refine MR_up ?_ (by simp)) | (refine mF_pup ?_ (by simp)))); done) | ((simp (disch := omega) only [zw_lit] at *) <;> (first | omega | assumption)) | ((simp (disch := omega) [pup_app, zw_lit] at *) <;> (first | omega | assumption)) | (simp only [zw]; omega))
