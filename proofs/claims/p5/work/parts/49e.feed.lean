/-! ===== feed and end, to the number ===== -/
section FEED
variable {g : Nat → Nat → Int} {H : PH}
theorem w2_213_1 {v : Int} (h : WT 2 g H) (h1 : 0 ≤ v) (h2 : v ≤ 600) : WT 2 g (pup H 213 1 v) := WT_wf (c := 213) (i := 1) (lo := 0) (hi := 600) h (by decide +kernel) (by decide +kernel) h1 h2
theorem w2_590_4 {v : Int} (h : WT 2 g H) (h1 : 0 ≤ v) (h2 : v ≤ 600) : WT 2 g (pup H 590 4 v) := WT_wf (c := 590) (i := 4) (lo := 0) (hi := 600) h (by decide +kernel) (by decide +kernel) h1 h2
theorem wa_q2 {f : Int32 → Int32 → Int32} {i x y : Int} (h : WT 2 g H) (h0 : 0 ≤ i) : WT 2 g (pup H 214 i (q2 f x y)) := wa_214 h h0 (q2_in f x y).1 (by have := (q2_in f x y).2; omega)
theorem wa_qb {k : Nat} {i x : Int} (h : WT 2 g H) (h0 : 0 ≤ i) : WT 2 g (pup H 593 i (qb k x)) := by
  have hq : zIn (qb k x) := by unfold qb; split <;> exact q1_in _ _
  exact wa_593 h h0 hq.1 (by have := hq.2; omega)
end FEED
set_option maxRecDepth 20000 in
set_option maxHeartbeats 4000000 in
theorem lp_X10_add_3 {G : zG} {us : Nat} {g : Nat → Nat → Int} (H0 : PH) (w z : Int)  (z0 : 0 ≤ z) (z1 : z ≤ 596) : ∀ (n : Nat) (ls : PL) (H : PH) (q : Int), (4 - q).toNat < n → pnl ls → pget ls 0 = some (2, 213) → pget ls 1 = some (0, w) → pget ls 2 = some (0, 24 - 8 * q) → WT 2 g H → frm [52, 2010] H0 H → 0 ≤ q → q ≤ 4 → H 213 1 = z + q → Tr G us kd_X10_add 1 (zget kd_X10_add 3) 3 ls [] H (fun r H' => r = none ∧ WT 2 g H' ∧ frm [52, 2010] H0 H' ∧ H' 213 1 = z + 4) := by
  intro n
  induction n with
  | zero => intros; omega
  | succ n ih =>
    intro ls H q hn hnl l0 l1 l2 hW hF q0 q4 hz
    have e24 : zw (24 - 8 * q + 4294967288) = 24 - 8 * (q + 1) := by unfold zw; omega
    refine tr_lab (D := 0) (t := 3) vb_X10_add_3 _ ve_X10_add_3 ?_
    simp (maxDischargeDepth := 12) [vb_X10_add_3, wB, wI, k1, kI, kR, kL, k2, pget, pget_pset, pnl_pset, pnl_cons, pnl_nil, parg, ppush, pcat, zw_lit, zw_m1, zw_m2, zw_m3, zNC_eq, zrow, pup_app, gv_213_0, gv_213_1, pe, tg_10_0, tg_10_1, zfit, zisI, sh_590, sh_213, sh_214, e24, hnl, l0, l1, l2]
    repeat' (with_reducible (first | (refine And.intro ?_ ?_) | intro _))
    all_goals try (refine tr_lab (D := 0) (t := 43) vb_X10_add_43 _ ve_X10_add_43 ?_; simp (maxDischargeDepth := 12) [vb_X10_add_43, wB, wI, k1, kI, kR, kL, k2, pget, pget_pset, pnl_pset, pnl_cons, pnl_nil, parg, ppush, pcat, zw_lit, zw_m1, zw_m2, zw_m3, zNC_eq, zrow, pup_app, gv_213_0, gv_213_1, pe, tg_10_0, tg_10_1, zfit, zisI, sh_590, sh_213, sh_214, e24, hnl, l0, l1, l2])
    all_goals repeat' (with_reducible (first | (refine And.intro ?_ ?_) | intro _))
    all_goals try (refine tr_lab (D := 0) (t := 49) vb_X10_add_49 _ ve_X10_add_49 ?_; simp (maxDischargeDepth := 12) [vb_X10_add_49, wB, wI, k1, kI, kR, kL, k2, pget, pget_pset, pnl_pset, pnl_cons, pnl_nil, parg, ppush, pcat, zw_lit, zw_m1, zw_m2, zw_m3, zNC_eq, zrow, pup_app, gv_213_0, gv_213_1, pe, tg_10_0, tg_10_1, zfit, zisI, sh_590, sh_213, sh_214, e24, hnl, l0, l1, l2])
    all_goals repeat' (with_reducible (first | (refine And.intro ?_ ?_) | intro _))
    all_goals try (refine ih _ _ (q + 1) ?_ ?_ ?_ ?_ ?_ ?_ ?_ ?_ ?_ ?_)
    all_goals try simp (maxDischargeDepth := 12) [pget_pset, pnl_pset, pnl_cons, pnl_nil, pget, hnl, pup_app, l0, l1, l2]
    all_goals (first | omega | assumption | ((repeat (first | assumption | exact frm_refl _ _ | (refine w2_213_1 ?_ (by (first | omega | exact zw_lo _ | exact zw_hi _ | ((simp (disch := omega) only [zw_lit, pup_app]) <;> omega) | ((simp (disch := omega) [zw_lit, pup_app]) <;> omega) | (simp only [zw]; omega))) (by (first | omega | exact zw_lo _ | exact zw_hi _ | ((simp (disch := omega) only [zw_lit, pup_app]) <;> omega) | ((simp (disch := omega) [zw_lit, pup_app]) <;> omega) | (simp only [zw]; omega)))) | (refine wa_q2 ?_ (by omega)) | (refine ff_213_1 ?_ rfl) | (refine fa_214 ?_ rfl))); done) | (first | omega | exact zw_lo _ | exact zw_hi _ | ((simp (disch := omega) only [zw_lit, pup_app]) <;> omega) | ((simp (disch := omega) [zw_lit, pup_app]) <;> omega) | (simp only [zw]; omega)) | skip)

set_option maxRecDepth 20000 in
set_option maxHeartbeats 4000000 in
theorem ca_X10_add {G : zG} {us : Nat} {g : Nat → Nat → Int} (w : Int) (H : PH) (hW : WT 2 g H) (z0 : 0 ≤ H 213 1) (z1 : H 213 1 ≤ 596) : Ca G us 1 93 [(2, 213), (0, w)] H (fun r H' => r = none ∧ WT 2 g H' ∧ frm [52, 2010] H H' ∧ H' 213 1 = H 213 1 + 4) := by
  refine ⟨_, _, _, _, _, _, vm_X10_add, by simp [pcat], ?_⟩
  refine tr_lab (D := 0) (t := 0) vb_X10_add_0 _ ve_X10_add_0 ?_
  simp (maxDischargeDepth := 12) [vb_X10_add_0, wB, wI, k1, kI, kR, kL, k2, pget, pget_pset, pnl_pset, pnl_cons, pnl_nil, parg, ppush, pcat, zw_lit, zw_m1, zw_m2, zw_m3, zNC_eq, zrow, pup_app, gv_213_0, gv_213_1, pe, tg_10_0, tg_10_1, zfit, zisI, sh_590, sh_213]
  repeat' (with_reducible (first | (refine And.intro ?_ ?_) | intro _))
  all_goals try ((refine lp_X10_add_3 H w (H 213 1) z0 z1 5 _ _ 0 ?_ ?_ ?_ ?_ ?_ ?_ ?_ ?_ ?_ ?_) <;> (try simp (maxDischargeDepth := 12) [pget_pset, pnl_pset, pnl_cons, pnl_nil, pget, pup_app, *]))
  all_goals (first | omega | assumption | exact frm_refl _ _ | skip)

set_option maxRecDepth 20000 in
set_option maxHeartbeats 4000000 in
theorem lp_X12_four_3 {G : zG} {us : Nat} {g : Nat → Nat → Int} (H0 : PH) (w z : Int)  (z0 : 0 ≤ z) (z1 : z ≤ 596) : ∀ (n : Nat) (ls : PL) (H : PH) (q : Int), (4 - q).toNat < n → pnl ls → pget ls 0 = some (2, 590) → pget ls 1 = some (0, w) → pget ls 2 = some (0, 24 - 8 * q) → WT 2 g H → frm [78, 5012] H0 H → 0 ≤ q → q ≤ 4 → H 590 4 = z + q → Tr G us kd_X12_four 1 (zget kd_X12_four 3) 3 ls [] H (fun r H' => r = none ∧ WT 2 g H' ∧ frm [78, 5012] H0 H' ∧ H' 590 4 = z + 4) := by
  intro n
  induction n with
  | zero => intros; omega
  | succ n ih =>
    intro ls H q hn hnl l0 l1 l2 hW hF q0 q4 hz
    have e24 : zw (24 - 8 * q + 4294967288) = 24 - 8 * (q + 1) := by unfold zw; omega
    refine tr_lab (D := 0) (t := 3) vb_X12_four_3 _ ve_X12_four_3 ?_
    simp (maxDischargeDepth := 12) [vb_X12_four_3, wB, wI, k1, kI, kR, kL, k2, pget, pget_pset, pnl_pset, pnl_cons, pnl_nil, parg, ppush, pcat, zw_lit, zw_m1, zw_m2, zw_m3, zNC_eq, zrow, pup_app, gv_590_3, gv_590_4, pe, tg_12_3, tg_12_4, zfit, zisI, sh_590, sh_593, e24, hnl, l0, l1, l2]
    repeat' (with_reducible (first | (refine And.intro ?_ ?_) | intro _))
    all_goals try (refine tr_lab (D := 0) (t := 36) vb_X12_four_36 _ ve_X12_four_36 ?_; simp (maxDischargeDepth := 12) [vb_X12_four_36, wB, wI, k1, kI, kR, kL, k2, pget, pget_pset, pnl_pset, pnl_cons, pnl_nil, parg, ppush, pcat, zw_lit, zw_m1, zw_m2, zw_m3, zNC_eq, zrow, pup_app, gv_590_3, gv_590_4, pe, tg_12_3, tg_12_4, zfit, zisI, sh_590, sh_593, e24, hnl, l0, l1, l2])
    all_goals repeat' (with_reducible (first | (refine And.intro ?_ ?_) | intro _))
    all_goals try (refine ih _ _ (q + 1) ?_ ?_ ?_ ?_ ?_ ?_ ?_ ?_ ?_ ?_)
    all_goals try simp (maxDischargeDepth := 12) [pget_pset, pnl_pset, pnl_cons, pnl_nil, pget, hnl, pup_app, l0, l1, l2]
    all_goals (first | omega | assumption | ((repeat (first | assumption | exact frm_refl _ _ | (refine w2_590_4 ?_ (by (first | omega | exact zw_lo _ | exact zw_hi _ | ((simp (disch := omega) only [zw_lit, pup_app]) <;> omega) | ((simp (disch := omega) [zw_lit, pup_app]) <;> omega) | (simp only [zw]; omega))) (by (first | omega | exact zw_lo _ | exact zw_hi _ | ((simp (disch := omega) only [zw_lit, pup_app]) <;> omega) | ((simp (disch := omega) [zw_lit, pup_app]) <;> omega) | (simp only [zw]; omega)))) | (refine wa_qb ?_ (by omega)) | (refine ff_590_4 ?_ rfl) | (refine fa_593 ?_ rfl))); done) | (first | omega | exact zw_lo _ | exact zw_hi _ | ((simp (disch := omega) only [zw_lit, pup_app]) <;> omega) | ((simp (disch := omega) [zw_lit, pup_app]) <;> omega) | (simp only [zw]; omega)) | skip)

set_option maxRecDepth 20000 in
set_option maxHeartbeats 4000000 in
theorem ca_X12_four {G : zG} {us : Nat} {g : Nat → Nat → Int} (w : Int) (H : PH) (hW : WT 2 g H) (z0 : 0 ≤ H 590 4) (z1 : H 590 4 ≤ 596) : Ca G us 1 160 [(2, 590), (0, w)] H (fun r H' => r = none ∧ WT 2 g H' ∧ frm [78, 5012] H H' ∧ H' 590 4 = H 590 4 + 4) := by
  refine ⟨_, _, _, _, _, _, vm_X12_four, by simp [pcat], ?_⟩
  refine tr_lab (D := 0) (t := 0) vb_X12_four_0 _ ve_X12_four_0 ?_
  simp (maxDischargeDepth := 12) [vb_X12_four_0, wB, wI, k1, kI, kR, kL, k2, pget, pget_pset, pnl_pset, pnl_cons, pnl_nil, parg, ppush, pcat, zw_lit, zw_m1, zw_m2, zw_m3, zNC_eq, zrow, pup_app, gv_590_3, gv_590_4, pe, tg_12_3, tg_12_4, zfit, zisI, sh_590]
  repeat' (with_reducible (first | (refine And.intro ?_ ?_) | intro _))
  all_goals try ((refine lp_X12_four_3 H w (H 590 4) z0 z1 5 _ _ 0 ?_ ?_ ?_ ?_ ?_ ?_ ?_ ?_ ?_ ?_) <;> (try simp (maxDischargeDepth := 12) [pget_pset, pnl_pset, pnl_cons, pnl_nil, pget, pup_app, *]))
  all_goals (first | omega | assumption | exact frm_refl _ _ | skip)

set_option maxRecDepth 20000 in
set_option maxHeartbeats 4000000 in
theorem ca_X11_feed {G : zG} {us : Nat} {g : Nat → Nat → Int} (a b c d e : Int) (H : PH) (hW : WT 2 g H) (z0 : 0 ≤ H 213 1) (z1 : H 213 1 ≤ 600) : Ca G us 2 105 [(2, 0), (0, a), (0, b), (0, c), (0, d), (0, e)] H (fun r H' => WT 2 g H' ∧ frm [52, 2010] H H' ∧ ((580 < H 213 1 ∧ r = some (0, -1) ∧ H' 213 1 = H 213 1) ∨ (H 213 1 ≤ 580 ∧ r = some (0, H 213 1 + 20) ∧ H' 213 1 = H 213 1 + 20))) := by
  have e20 : zw (H 213 1 + 20) = H 213 1 + 20 := zw_lit (by omega) (by omega)
  refine ⟨_, _, _, _, _, _, vm_X11_feed, by simp [pcat], ?_⟩
  refine tr_lab (D := 1) (t := 0) vb_X11_feed_0 _ ve_X11_feed_0 ?_
  simp (maxDischargeDepth := 12) [vb_X11_feed_0, wB, wI, k1, kI, kR, kL, k2, pget, pget_pset, pnl_pset, pnl_cons, pnl_nil, parg, ppush, pcat, zw_lit, zw_m1, zw_m2, zw_m3, zNC_eq, zrow, pup_app, gv_0_1, gv_213_1, tg_10_1, tg_11_1, sh_590, sh_0, sh_213, e20]
  repeat' (with_reducible (first | (refine And.intro ?_ ?_) | intro _))
  all_goals try (refine tr_lab (D := 1) (t := 18) vb_X11_feed_18 _ ve_X11_feed_18 ?_; simp (maxDischargeDepth := 12) [vb_X11_feed_18, wB, wI, k1, kI, kR, kL, k2, pget, pget_pset, pnl_pset, pnl_cons, pnl_nil, parg, ppush, pcat, zw_lit, zw_m1, zw_m2, zw_m3, zNC_eq, zrow, pup_app, gv_0_1, gv_213_1, tg_10_1, tg_11_1, sh_590, sh_0, sh_213, e20])
  all_goals repeat' (with_reducible (first | (refine And.intro ?_ ?_) | intro _))
  all_goals try (refine Ca_use (ca_X10_add _ _ (by assumption) (by omega) (by omega)) (by omega) ?_; rintro _ _ ⟨rfl, hW2, hF2, hz2⟩; simp (maxDischargeDepth := 12) [wB, wI, k1, kI, kR, kL, k2, pget, pget_pset, pnl_pset, pnl_cons, pnl_nil, parg, ppush, pcat, zw_lit, zw_m1, zw_m2, zw_m3, zNC_eq, zrow, pup_app, gv_0_1, gv_213_1, tg_10_1, tg_11_1, sh_590, sh_0, sh_213, e20])
  all_goals repeat' (with_reducible (first | (refine And.intro ?_ ?_) | intro _))
  all_goals try (refine Ca_use (ca_X10_add _ _ (by assumption) (by omega) (by omega)) (by omega) ?_; rintro _ _ ⟨rfl, hW2, hF2, hz2⟩; simp (maxDischargeDepth := 12) [wB, wI, k1, kI, kR, kL, k2, pget, pget_pset, pnl_pset, pnl_cons, pnl_nil, parg, ppush, pcat, zw_lit, zw_m1, zw_m2, zw_m3, zNC_eq, zrow, pup_app, gv_0_1, gv_213_1, tg_10_1, tg_11_1, sh_590, sh_0, sh_213, e20])
  all_goals repeat' (with_reducible (first | (refine And.intro ?_ ?_) | intro _))
  all_goals try (refine Ca_use (ca_X10_add _ _ (by assumption) (by omega) (by omega)) (by omega) ?_; rintro _ _ ⟨rfl, hW2, hF2, hz2⟩; simp (maxDischargeDepth := 12) [wB, wI, k1, kI, kR, kL, k2, pget, pget_pset, pnl_pset, pnl_cons, pnl_nil, parg, ppush, pcat, zw_lit, zw_m1, zw_m2, zw_m3, zNC_eq, zrow, pup_app, gv_0_1, gv_213_1, tg_10_1, tg_11_1, sh_590, sh_0, sh_213, e20])
  all_goals repeat' (with_reducible (first | (refine And.intro ?_ ?_) | intro _))
  all_goals try (refine Ca_use (ca_X10_add _ _ (by assumption) (by omega) (by omega)) (by omega) ?_; rintro _ _ ⟨rfl, hW2, hF2, hz2⟩; simp (maxDischargeDepth := 12) [wB, wI, k1, kI, kR, kL, k2, pget, pget_pset, pnl_pset, pnl_cons, pnl_nil, parg, ppush, pcat, zw_lit, zw_m1, zw_m2, zw_m3, zNC_eq, zrow, pup_app, gv_0_1, gv_213_1, tg_10_1, tg_11_1, sh_590, sh_0, sh_213, e20])
  all_goals repeat' (with_reducible (first | (refine And.intro ?_ ?_) | intro _))
  all_goals try (refine Ca_use (ca_X10_add _ _ (by assumption) (by omega) (by omega)) (by omega) ?_; rintro _ _ ⟨rfl, hW2, hF2, hz2⟩; simp (maxDischargeDepth := 12) [wB, wI, k1, kI, kR, kL, k2, pget, pget_pset, pnl_pset, pnl_cons, pnl_nil, parg, ppush, pcat, zw_lit, zw_m1, zw_m2, zw_m3, zNC_eq, zrow, pup_app, gv_0_1, gv_213_1, tg_10_1, tg_11_1, sh_590, sh_0, sh_213, e20])
  all_goals repeat' (with_reducible (first | (refine And.intro ?_ ?_) | intro _))
  all_goals (first | omega | assumption | exact frm_refl _ _ | ((repeat (first | assumption | (refine frm_trans ?_ (by assumption)))); done) | skip)

set_option maxRecDepth 20000 in
set_option maxHeartbeats 4000000 in
theorem ca_X12_feed {G : zG} {us : Nat} {g : Nat → Nat → Int} (a b c d e : Int) (H : PH) (hW : WT 2 g H) (z0 : 0 ≤ H 590 4) (z1 : H 590 4 ≤ 600) : Ca G us 2 161 [(2, 590), (0, a), (0, b), (0, c), (0, d), (0, e)] H (fun r H' => WT 2 g H' ∧ frm [78, 5012] H H' ∧ ((580 < H 590 4 ∧ r = some (0, -1) ∧ H' 590 4 = H 590 4) ∨ (H 590 4 ≤ 580 ∧ r = some (0, H 590 4 + 20) ∧ H' 590 4 = H 590 4 + 20))) := by
  have e20 : zw (H 590 4 + 20) = H 590 4 + 20 := zw_lit (by omega) (by omega)
  refine ⟨_, _, _, _, _, _, vm_X12_feed, by simp [pcat], ?_⟩
  refine tr_lab (D := 1) (t := 0) vb_X12_feed_0 _ ve_X12_feed_0 ?_
  simp (maxDischargeDepth := 12) [vb_X12_feed_0, wB, wI, k1, kI, kR, kL, k2, pget, pget_pset, pnl_pset, pnl_cons, pnl_nil, parg, ppush, pcat, zw_lit, zw_m1, zw_m2, zw_m3, zNC_eq, zrow, pup_app, gv_590_4, tg_12_4, sh_590, e20]
  repeat' (with_reducible (first | (refine And.intro ?_ ?_) | intro _))
  all_goals try (refine tr_lab (D := 1) (t := 15) vb_X12_feed_15 _ ve_X12_feed_15 ?_; simp (maxDischargeDepth := 12) [vb_X12_feed_15, wB, wI, k1, kI, kR, kL, k2, pget, pget_pset, pnl_pset, pnl_cons, pnl_nil, parg, ppush, pcat, zw_lit, zw_m1, zw_m2, zw_m3, zNC_eq, zrow, pup_app, gv_590_4, tg_12_4, sh_590, e20])
  all_goals repeat' (with_reducible (first | (refine And.intro ?_ ?_) | intro _))
  all_goals try (refine Ca_use (ca_X12_four _ _ (by assumption) (by omega) (by omega)) (by omega) ?_; rintro _ _ ⟨rfl, hW2, hF2, hz2⟩; simp (maxDischargeDepth := 12) [wB, wI, k1, kI, kR, kL, k2, pget, pget_pset, pnl_pset, pnl_cons, pnl_nil, parg, ppush, pcat, zw_lit, zw_m1, zw_m2, zw_m3, zNC_eq, zrow, pup_app, gv_590_4, tg_12_4, sh_590, e20])
  all_goals repeat' (with_reducible (first | (refine And.intro ?_ ?_) | intro _))
  all_goals try (refine Ca_use (ca_X12_four _ _ (by assumption) (by omega) (by omega)) (by omega) ?_; rintro _ _ ⟨rfl, hW2, hF2, hz2⟩; simp (maxDischargeDepth := 12) [wB, wI, k1, kI, kR, kL, k2, pget, pget_pset, pnl_pset, pnl_cons, pnl_nil, parg, ppush, pcat, zw_lit, zw_m1, zw_m2, zw_m3, zNC_eq, zrow, pup_app, gv_590_4, tg_12_4, sh_590, e20])
  all_goals repeat' (with_reducible (first | (refine And.intro ?_ ?_) | intro _))
  all_goals try (refine Ca_use (ca_X12_four _ _ (by assumption) (by omega) (by omega)) (by omega) ?_; rintro _ _ ⟨rfl, hW2, hF2, hz2⟩; simp (maxDischargeDepth := 12) [wB, wI, k1, kI, kR, kL, k2, pget, pget_pset, pnl_pset, pnl_cons, pnl_nil, parg, ppush, pcat, zw_lit, zw_m1, zw_m2, zw_m3, zNC_eq, zrow, pup_app, gv_590_4, tg_12_4, sh_590, e20])
  all_goals repeat' (with_reducible (first | (refine And.intro ?_ ?_) | intro _))
  all_goals try (refine Ca_use (ca_X12_four _ _ (by assumption) (by omega) (by omega)) (by omega) ?_; rintro _ _ ⟨rfl, hW2, hF2, hz2⟩; simp (maxDischargeDepth := 12) [wB, wI, k1, kI, kR, kL, k2, pget, pget_pset, pnl_pset, pnl_cons, pnl_nil, parg, ppush, pcat, zw_lit, zw_m1, zw_m2, zw_m3, zNC_eq, zrow, pup_app, gv_590_4, tg_12_4, sh_590, e20])
  all_goals repeat' (with_reducible (first | (refine And.intro ?_ ?_) | intro _))
  all_goals try (refine Ca_use (ca_X12_four _ _ (by assumption) (by omega) (by omega)) (by omega) ?_; rintro _ _ ⟨rfl, hW2, hF2, hz2⟩; simp (maxDischargeDepth := 12) [wB, wI, k1, kI, kR, kL, k2, pget, pget_pset, pnl_pset, pnl_cons, pnl_nil, parg, ppush, pcat, zw_lit, zw_m1, zw_m2, zw_m3, zNC_eq, zrow, pup_app, gv_590_4, tg_12_4, sh_590, e20])
  all_goals repeat' (with_reducible (first | (refine And.intro ?_ ?_) | intro _))
  all_goals (first | omega | assumption | exact frm_refl _ _ | ((repeat (first | assumption | (refine frm_trans ?_ (by assumption)))); done) | skip)

set_option maxRecDepth 20000 in
set_option maxHeartbeats 4000000 in
theorem ca_X11_end {G : zG} {us : Nat} {g : Nat → Nat → Int} (n : Int) (H : PH) (hW : WT 2 g H) (z0 : 0 ≤ H 213 1) (z1 : H 213 1 ≤ 600) : Ca G us 2 106 [(2, 0), (0, n)] H (fun r H' => WT 2 g H' ∧ frm [2010] H H' ∧ ((¬ (0 ≤ n ∧ n ≤ H 213 1) ∧ r = some (0, -1) ∧ H' 213 1 = H 213 1) ∨ ((0 ≤ n ∧ n ≤ H 213 1) ∧ r = some (0, n) ∧ H' 213 1 = n))) := by
  refine ⟨_, _, _, _, _, _, vm_X11_end, by simp [pcat], ?_⟩
  refine tr_lab (D := 1) (t := 0) vb_X11_end_0 _ ve_X11_end_0 ?_
  simp (maxDischargeDepth := 12) [vb_X11_end_0, wB, wI, k1, kI, kR, kL, k2, pget, pget_pset, pnl_pset, pnl_cons, pnl_nil, parg, ppush, pcat, zw_lit, zw_m1, zw_m2, zw_m3, zNC_eq, zrow, pup_app, gv_0_1, gv_213_1, pe, tg_10_1, tg_11_1, zfit, zisI, sh_590, sh_0, sh_213]
  repeat' (with_reducible (first | (refine And.intro ?_ ?_) | intro _))
  all_goals try (refine Ca_use (ca_X11_within _ _ _ _) (by omega) ?_; rintro _ _ ⟨rfl, rfl⟩; simp (maxDischargeDepth := 12) [wB, wI, k1, kI, kR, kL, k2, pget, pget_pset, pnl_pset, pnl_cons, pnl_nil, parg, ppush, pcat, zw_lit, zw_m1, zw_m2, zw_m3, zNC_eq, zrow, pup_app, gv_0_1, gv_213_1, pe, tg_10_1, tg_11_1, zfit, zisI, sh_590, sh_0, sh_213])
  all_goals repeat' (with_reducible (first | (refine And.intro ?_ ?_) | intro _))
  all_goals try (refine tr_lab (D := 1) (t := 17) vb_X11_end_17 _ ve_X11_end_17 ?_; simp (maxDischargeDepth := 12) [vb_X11_end_17, wB, wI, k1, kI, kR, kL, k2, pget, pget_pset, pnl_pset, pnl_cons, pnl_nil, parg, ppush, pcat, zw_lit, zw_m1, zw_m2, zw_m3, zNC_eq, zrow, pup_app, gv_0_1, gv_213_1, pe, tg_10_1, tg_11_1, zfit, zisI, sh_590, sh_0, sh_213])
  all_goals repeat' (with_reducible (first | (refine And.intro ?_ ?_) | intro _))
  all_goals (first | omega | assumption | exact frm_refl _ _ | (exact ⟨w2_213_1 (by assumption) (by omega) (by omega), ff_213_1 (frm_refl _ _) rfl, by omega⟩) | ((repeat (first | assumption | (refine w2_213_1 ?_ (by omega) (by omega)) | (refine ff_213_1 (frm_refl _ _) rfl))); done) | skip)

set_option maxRecDepth 20000 in
set_option maxHeartbeats 4000000 in
theorem ca_X12_end {G : zG} {us : Nat} {g : Nat → Nat → Int} (n : Int) (H : PH) (hW : WT 2 g H) (z0 : 0 ≤ H 590 4) (z1 : H 590 4 ≤ 600) : Ca G us 2 162 [(2, 590), (0, n)] H (fun r H' => WT 2 g H' ∧ frm [5012] H H' ∧ ((¬ (0 ≤ n ∧ n ≤ H 590 4) ∧ r = some (0, -1) ∧ H' 590 4 = H 590 4) ∨ ((0 ≤ n ∧ n ≤ H 590 4) ∧ r = some (0, n) ∧ H' 590 4 = n))) := by
  refine ⟨_, _, _, _, _, _, vm_X12_end, by simp [pcat], ?_⟩
  refine tr_lab (D := 1) (t := 0) vb_X12_end_0 _ ve_X12_end_0 ?_
  simp (maxDischargeDepth := 12) [vb_X12_end_0, wB, wI, k1, kI, kR, kL, k2, pget, pget_pset, pnl_pset, pnl_cons, pnl_nil, parg, ppush, pcat, zw_lit, zw_m1, zw_m2, zw_m3, zNC_eq, zrow, pup_app, gv_590_4, pe, tg_12_4, zfit, zisI, sh_590, sh_0, sh_213]
  repeat' (with_reducible (first | (refine And.intro ?_ ?_) | intro _))
  all_goals try (refine Ca_use (ca_X12_isIn _ _ _ _) (by omega) ?_; rintro _ _ ⟨rfl, rfl⟩; simp (maxDischargeDepth := 12) [wB, wI, k1, kI, kR, kL, k2, pget, pget_pset, pnl_pset, pnl_cons, pnl_nil, parg, ppush, pcat, zw_lit, zw_m1, zw_m2, zw_m3, zNC_eq, zrow, pup_app, gv_590_4, pe, tg_12_4, zfit, zisI, sh_590, sh_0, sh_213])
  all_goals repeat' (with_reducible (first | (refine And.intro ?_ ?_) | intro _))
  all_goals try (refine tr_lab (D := 1) (t := 14) vb_X12_end_14 _ ve_X12_end_14 ?_; simp (maxDischargeDepth := 12) [vb_X12_end_14, wB, wI, k1, kI, kR, kL, k2, pget, pget_pset, pnl_pset, pnl_cons, pnl_nil, parg, ppush, pcat, zw_lit, zw_m1, zw_m2, zw_m3, zNC_eq, zrow, pup_app, gv_590_4, pe, tg_12_4, zfit, zisI, sh_590, sh_0, sh_213])
  all_goals repeat' (with_reducible (first | (refine And.intro ?_ ?_) | intro _))
  all_goals (first | omega | assumption | exact frm_refl _ _ | (exact ⟨w2_590_4 (by assumption) (by omega) (by omega), ff_590_4 (frm_refl _ _) rfl, by omega⟩) | ((repeat (first | assumption | (refine w2_590_4 ?_ (by omega) (by omega)) | (refine ff_590_4 (frm_refl _ _) rfl))); done) | skip)

