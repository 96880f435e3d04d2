set_option maxRecDepth 20000 in
set_option maxHeartbeats 4000000 in
theorem ca_X12_takes {G : zG} {us : Nat} (c : Int) (H : PH) (ha0 : 0 ≤ H 590 5) (ht : H 590 4 ≤ 600) (hc : 0 ≤ c) : Ca G us 2 167 [(2, 590), (0, c)] H (fun r H' => (r = some (0, 0) ∧ H' = pup H 590 6 (H 590 5)) ∨ (r = some (0, 1) ∧ H 590 5 < H 590 4 ∧ H' = pup H 590 5 (H 590 5 + 1))) := by
  refine ⟨_, _, _, _, _, _, vm_X12_takes, by simp [pcat], ?_⟩
  refine tr_lab (D := 1) (t := 0) vb_X12_takes_0 _ ve_X12_takes_0 ?_
  simp (maxDischargeDepth := 12) [vb_X12_takes_0, wB, wI, k1, kI, kR, kL, k2, pget, pget_pset, pnl_pset, pnl_cons, pnl_nil, parg, ppush, pcat, zw_lit, zw_m1, zw_m2, zw_m3, zNC_eq, zrow, pup_app, gv_590_5, pe, tg_12_5, zfit, zisI, sh_590]
  repeat' (with_reducible (first | (refine And.intro ?_ ?_) | intro _))
  all_goals try (refine Ca_use (ca_X12_here _  (by (try simp [pup_app]); omega) (by (try simp [pup_app]); omega)) (by omega) ?_; rintro _ _ ⟨rfl, rfl, hx⟩; simp (maxDischargeDepth := 12) [wB, wI, k1, kI, kR, kL, k2, pget, pget_pset, pnl_pset, pnl_cons, pnl_nil, parg, ppush, pcat, zw_lit, zw_m1, zw_m2, zw_m3, zNC_eq, zrow, pup_app, gv_590_5, pe, tg_12_5, zfit, zisI, sh_590])
  all_goals repeat' (with_reducible (first | (refine And.intro ?_ ?_) | intro _))
  all_goals try (refine Ca_use (ca_X12_fails _ _) (by omega) ?_; rintro _ _ ⟨rfl, rfl⟩; simp (maxDischargeDepth := 12) [wB, wI, k1, kI, kR, kL, k2, pget, pget_pset, pnl_pset, pnl_cons, pnl_nil, parg, ppush, pcat, zw_lit, zw_m1, zw_m2, zw_m3, zNC_eq, zrow, pup_app, gv_590_5, pe, tg_12_5, zfit, zisI, sh_590])
  all_goals repeat' (with_reducible (first | (refine And.intro ?_ ?_) | intro _))
  all_goals try (refine tr_lab (D := 1) (t := 17) vb_X12_takes_17 _ ve_X12_takes_17 ?_; simp (maxDischargeDepth := 12) [vb_X12_takes_17, wB, wI, k1, kI, kR, kL, k2, pget, pget_pset, pnl_pset, pnl_cons, pnl_nil, parg, ppush, pcat, zw_lit, zw_m1, zw_m2, zw_m3, zNC_eq, zrow, pup_app, gv_590_5, pe, tg_12_5, zfit, zisI, sh_590])
  all_goals repeat' (with_reducible (first | (refine And.intro ?_ ?_) | intro _))
  all_goals (first | omega | ((simp (disch := omega) only [zw_lit]) <;> omega) | (refine Or.inr ⟨?_, ?_⟩ <;> (first | omega | ((simp (disch := omega) only [zw_lit])))))

set_option maxRecDepth 20000 in
set_option maxHeartbeats 4000000 in
theorem ca_X12_readOne {G : zG} {us : Nat} (m : Int) (H : PH) (ha0 : 0 ≤ H 590 5) (ht : H 590 4 ≤ 600) (hm0 : 0 ≤ m) (hm : m ≤ 9) : Ca G us 2 171 [(2, 590), (0, m)] H (fun r H' => (r = some (0, 0) ∧ H' = pup H 590 6 (H 590 5)) ∨ (r = some (0, 1) ∧ H 590 5 < H 590 4 ∧ ∃ x, 0 ≤ x ∧ x ≤ m ∧ H' = pup (pup H 590 7 x) 590 5 (H 590 5 + 1))) := by
  refine ⟨_, _, _, _, _, _, vm_X12_readOne, by simp [pcat], ?_⟩
  refine tr_lab (D := 1) (t := 0) vb_X12_readOne_0 _ ve_X12_readOne_0 ?_
  simp (maxDischargeDepth := 12) [vb_X12_readOne_0, wB, wI, k1, kI, kR, kL, k2, pget, pget_pset, pnl_pset, pnl_cons, pnl_nil, parg, ppush, pcat, zw_lit, zw_m1, zw_m2, zw_m3, zNC_eq, zrow, pup_app, gv_590_5, pe, tg_12_5, tg_12_7, zfit, zisI, sh_590]
  repeat' (with_reducible (first | (refine And.intro ?_ ?_) | intro _))
  all_goals try (refine Ca_use (ca_X12_here _  (by (try simp [pup_app]); omega) (by (try simp [pup_app]); omega)) (by omega) ?_; rintro _ _ ⟨rfl, rfl, hx⟩; simp (maxDischargeDepth := 12) [wB, wI, k1, kI, kR, kL, k2, pget, pget_pset, pnl_pset, pnl_cons, pnl_nil, parg, ppush, pcat, zw_lit, zw_m1, zw_m2, zw_m3, zNC_eq, zrow, pup_app, gv_590_5, pe, tg_12_5, tg_12_7, zfit, zisI, sh_590])
  all_goals repeat' (with_reducible (first | (refine And.intro ?_ ?_) | intro _))
  all_goals try (refine Ca_use (ca_X12_isIn _ _ _ _) (by omega) ?_; rintro _ _ ⟨rfl, rfl⟩; simp (maxDischargeDepth := 12) [wB, wI, k1, kI, kR, kL, k2, pget, pget_pset, pnl_pset, pnl_cons, pnl_nil, parg, ppush, pcat, zw_lit, zw_m1, zw_m2, zw_m3, zNC_eq, zrow, pup_app, gv_590_5, pe, tg_12_5, tg_12_7, zfit, zisI, sh_590])
  all_goals repeat' (with_reducible (first | (refine And.intro ?_ ?_) | intro _))
  all_goals try (refine Ca_use (ca_X12_fails _ _) (by omega) ?_; rintro _ _ ⟨rfl, rfl⟩; simp (maxDischargeDepth := 12) [wB, wI, k1, kI, kR, kL, k2, pget, pget_pset, pnl_pset, pnl_cons, pnl_nil, parg, ppush, pcat, zw_lit, zw_m1, zw_m2, zw_m3, zNC_eq, zrow, pup_app, gv_590_5, pe, tg_12_5, tg_12_7, zfit, zisI, sh_590])
  all_goals repeat' (with_reducible (first | (refine And.intro ?_ ?_) | intro _))
  all_goals try (refine tr_lab (D := 1) (t := 25) vb_X12_readOne_25 _ ve_X12_readOne_25 ?_; simp (maxDischargeDepth := 12) [vb_X12_readOne_25, wB, wI, k1, kI, kR, kL, k2, pget, pget_pset, pnl_pset, pnl_cons, pnl_nil, parg, ppush, pcat, zw_lit, zw_m1, zw_m2, zw_m3, zNC_eq, zrow, pup_app, gv_590_5, pe, tg_12_5, tg_12_7, zfit, zisI, sh_590])
  all_goals repeat' (with_reducible (first | (refine And.intro ?_ ?_) | intro _))
  all_goals try (refine Ca_use (ca_X12_here _  (by (try simp [pup_app]); omega) (by (try simp [pup_app]); omega)) (by omega) ?_; rintro _ _ ⟨rfl, rfl, hx⟩; simp (maxDischargeDepth := 12) [wB, wI, k1, kI, kR, kL, k2, pget, pget_pset, pnl_pset, pnl_cons, pnl_nil, parg, ppush, pcat, zw_lit, zw_m1, zw_m2, zw_m3, zNC_eq, zrow, pup_app, gv_590_5, pe, tg_12_5, tg_12_7, zfit, zisI, sh_590])
  all_goals repeat' (with_reducible (first | (refine And.intro ?_ ?_) | intro _))
  all_goals (simp (disch := omega) only [zw_lit] at *; first | omega | exact ⟨hr H - 48, by omega, by omega, rfl⟩)

set_option maxRecDepth 20000 in
set_option maxHeartbeats 4000000 in
theorem ca_X12_isProductSign {G : zG} {us : Nat}  (H : PH) (ha0 : 0 ≤ H 590 5) (ht : H 590 4 ≤ 600) : Ca G us 2 186 [(2, 590)] H (fun r H' => H = H' ∧ (r = some (0, 0) ∨ (r = some (0, 1) ∧ H 590 5 < H 590 4))) := by
  refine ⟨_, _, _, _, _, _, vm_X12_isProductSign, by simp [pcat], ?_⟩
  refine tr_lab (D := 1) (t := 0) vb_X12_isProductSign_0 _ ve_X12_isProductSign_0 ?_
  simp (maxDischargeDepth := 12) [vb_X12_isProductSign_0, wB, wI, k1, kI, kR, kL, k2, pget, pget_pset, pnl_pset, pnl_cons, pnl_nil, parg, ppush, pcat, zw_lit, zw_m1, zw_m2, zw_m3, zNC_eq, zrow, pup_app, sh_590]
  repeat' (with_reducible (first | (refine And.intro ?_ ?_) | intro _))
  all_goals try (refine Ca_use (ca_X12_here _  (by (try simp [pup_app]); omega) (by (try simp [pup_app]); omega)) (by omega) ?_; rintro _ _ ⟨rfl, rfl, hx⟩; simp (maxDischargeDepth := 12) [wB, wI, k1, kI, kR, kL, k2, pget, pget_pset, pnl_pset, pnl_cons, pnl_nil, parg, ppush, pcat, zw_lit, zw_m1, zw_m2, zw_m3, zNC_eq, zrow, pup_app, sh_590])
  all_goals repeat' (with_reducible (first | (refine And.intro ?_ ?_) | intro _))
  all_goals try (refine Ca_use (ca_X12_here _  (by (try simp [pup_app]); omega) (by (try simp [pup_app]); omega)) (by omega) ?_; rintro _ _ ⟨rfl, rfl, hx⟩; simp (maxDischargeDepth := 12) [wB, wI, k1, kI, kR, kL, k2, pget, pget_pset, pnl_pset, pnl_cons, pnl_nil, parg, ppush, pcat, zw_lit, zw_m1, zw_m2, zw_m3, zNC_eq, zrow, pup_app, sh_590])
  all_goals repeat' (with_reducible (first | (refine And.intro ?_ ?_) | intro _))
  all_goals try (refine Ca_use (ca_X12_here _  (by (try simp [pup_app]); omega) (by (try simp [pup_app]); omega)) (by omega) ?_; rintro _ _ ⟨rfl, rfl, hx⟩; simp (maxDischargeDepth := 12) [wB, wI, k1, kI, kR, kL, k2, pget, pget_pset, pnl_pset, pnl_cons, pnl_nil, parg, ppush, pcat, zw_lit, zw_m1, zw_m2, zw_m3, zNC_eq, zrow, pup_app, sh_590])
  all_goals repeat' (with_reducible (first | (refine And.intro ?_ ?_) | intro _))
  all_goals try (refine Ca_use (ca_X12_here _  (by (try simp [pup_app]); omega) (by (try simp [pup_app]); omega)) (by omega) ?_; rintro _ _ ⟨rfl, rfl, hx⟩; simp (maxDischargeDepth := 12) [wB, wI, k1, kI, kR, kL, k2, pget, pget_pset, pnl_pset, pnl_cons, pnl_nil, parg, ppush, pcat, zw_lit, zw_m1, zw_m2, zw_m3, zNC_eq, zrow, pup_app, sh_590])
  all_goals repeat' (with_reducible (first | (refine And.intro ?_ ?_) | intro _))
  all_goals try (refine tr_lab (D := 1) (t := 36) vb_X12_isProductSign_36 _ ve_X12_isProductSign_36 ?_; simp (maxDischargeDepth := 12) [vb_X12_isProductSign_36, wB, wI, k1, kI, kR, kL, k2, pget, pget_pset, pnl_pset, pnl_cons, pnl_nil, parg, ppush, pcat, zw_lit, zw_m1, zw_m2, zw_m3, zNC_eq, zrow, pup_app, sh_590])
  all_goals repeat' (with_reducible (first | (refine And.intro ?_ ?_) | intro _))
  all_goals try (refine tr_lab (D := 1) (t := 40) vb_X12_isProductSign_40 _ ve_X12_isProductSign_40 ?_; simp (maxDischargeDepth := 12) [vb_X12_isProductSign_40, wB, wI, k1, kI, kR, kL, k2, pget, pget_pset, pnl_pset, pnl_cons, pnl_nil, parg, ppush, pcat, zw_lit, zw_m1, zw_m2, zw_m3, zNC_eq, zrow, pup_app, sh_590])
  all_goals repeat' (with_reducible (first | (refine And.intro ?_ ?_) | intro _))
  all_goals try (refine tr_lab (D := 1) (t := 41) vb_X12_isProductSign_41 _ ve_X12_isProductSign_41 ?_; simp (maxDischargeDepth := 12) [vb_X12_isProductSign_41, wB, wI, k1, kI, kR, kL, k2, pget, pget_pset, pnl_pset, pnl_cons, pnl_nil, parg, ppush, pcat, zw_lit, zw_m1, zw_m2, zw_m3, zNC_eq, zrow, pup_app, sh_590])
  all_goals repeat' (with_reducible (first | (refine And.intro ?_ ?_) | intro _))
  all_goals omega
