def cc_X10_digitUpTo : aC := (99, 2, [(2, 0, 0, 10), (0, 0, 9, 1)], some (0, -2147483648, 2147483647, 1), [], 0, [10], [], [], [])
set_option maxRecDepth 20000 in
set_option maxHeartbeats 4000000 in
theorem ca_X10_digitUpTo {G : zG} {us : Nat} (m : Int) (H : PH) (h0 : 0 ≤ H 213 2) (h1 : H 213 2 ≤ 600) (h2 : H 213 1 ≤ 600) (hm : m ≤ 9) : Ca G us 2 99 [(2, 213), (0, m)] H (fun r H' => (r = some (0, -1) ∧ H' = pup H 213 3 (H 213 2)) ∨ ((∃ x, r = some (0, x) ∧ 0 ≤ x ∧ x ≤ m) ∧ H 213 2 < H 213 1 ∧ H' = pup H 213 2 (H 213 2 + 1))) := by
  have hb := nx_b H
  refine ⟨_, _, _, _, _, _, vm_X10_digitUpTo, by simp [pcat], ?_⟩
  refine tr_lab (D := 1) (t := 0) vb_X10_digitUpTo_0 _ ve_X10_digitUpTo_0 ?_
  simp (maxDischargeDepth := 12) [vb_X10_digitUpTo_0, wB, wI, k1, kI, kR, kL, k2, pget, pget_pset, pnl_pset, pnl_cons, pnl_nil, parg, ppush, pcat, zw_lit, zw_m1, zw_m2, zw_m3, zNC_eq, zrow, pup_app, gv_213_2, pe, tg_10_2, zfit, zisI, sh_590, sh_213]
  repeat' (with_reducible (first | (refine And.intro ?_ ?_) | intro _))
  all_goals try (refine Ca_use (ca_X10_next _ (by first | omega | (simp (disch := omega) [pup_app, zw_lit] <;> omega)) (by first | omega | (simp (disch := omega) [pup_app, zw_lit] <;> omega)) (by first | omega | (simp (disch := omega) [pup_app, zw_lit] <;> omega))) (by omega) ?_; rintro _ _ ⟨rfl, rfl⟩; simp (maxDischargeDepth := 12) [wB, wI, k1, kI, kR, kL, k2, pget, pget_pset, pnl_pset, pnl_cons, pnl_nil, parg, ppush, pcat, zw_lit, zw_m1, zw_m2, zw_m3, zNC_eq, zrow, pup_app, gv_213_2, pe, tg_10_2, zfit, zisI, sh_590, sh_213])
  all_goals repeat' (with_reducible (first | (refine And.intro ?_ ?_) | intro _))
  all_goals try (refine Ca_use (ca_X11_within _ _ _ _) (by omega) ?_; rintro _ _ ⟨rfl, rfl⟩; simp (maxDischargeDepth := 12) [wB, wI, k1, kI, kR, kL, k2, pget, pget_pset, pnl_pset, pnl_cons, pnl_nil, parg, ppush, pcat, zw_lit, zw_m1, zw_m2, zw_m3, zNC_eq, zrow, pup_app, gv_213_2, pe, tg_10_2, zfit, zisI, sh_590, sh_213])
  all_goals repeat' (with_reducible (first | (refine And.intro ?_ ?_) | intro _))
  all_goals try (refine Ca_use (ca_X10_fail _ _) (by omega) ?_; rintro _ _ ⟨rfl, rfl⟩; simp (maxDischargeDepth := 12) [wB, wI, k1, kI, kR, kL, k2, pget, pget_pset, pnl_pset, pnl_cons, pnl_nil, parg, ppush, pcat, zw_lit, zw_m1, zw_m2, zw_m3, zNC_eq, zrow, pup_app, gv_213_2, pe, tg_10_2, zfit, zisI, sh_590, sh_213])
  all_goals repeat' (with_reducible (first | (refine And.intro ?_ ?_) | intro _))
  all_goals try (refine tr_lab (D := 1) (t := 28) vb_X10_digitUpTo_28 _ ve_X10_digitUpTo_28 ?_; simp (maxDischargeDepth := 12) [vb_X10_digitUpTo_28, wB, wI, k1, kI, kR, kL, k2, pget, pget_pset, pnl_pset, pnl_cons, pnl_nil, parg, ppush, pcat, zw_lit, zw_m1, zw_m2, zw_m3, zNC_eq, zrow, pup_app, gv_213_2, pe, tg_10_2, zfit, zisI, sh_590, sh_213])
  all_goals repeat' (with_reducible (first | (refine And.intro ?_ ?_) | intro _))
  all_goals (first | omega | (refine Or.inr ⟨by omega, ?_, ?_⟩ <;> (first | omega | (simp only [zw] at *; omega) | (simp (disch := omega) only [zw_lit]))))

theorem ct_X10_digitUpTo : CtOK cc_X10_digitUpTo := by
  intro G us g H as hg hW ha hp
  obtain ⟨p0, p1, rfl, A0, A1⟩ := aargs2 ha
  have e0 := arg_sing (n := 213) A0 rfl
  subst e0
  obtain ⟨c, rfl, c1, c2, _⟩ := arg_int A1
  have t1 := rf_213_1 hW
  have t2 := rf_213_2 hW
  have t3 := rf_213_3 hW
  refine Ca_use (ca_X10_digitUpTo c H t2.1 t2.2 t1.2 c2) (Nat.le_refl _) ?_
  rintro r H' (⟨rfl, rfl⟩ | ⟨⟨x, rfl, hx0, hx1⟩, hlt, rfl⟩)
  · exact fin_plain (wf_213_3 hW (by omega) (by omega)) (vin (by omega) (by omega)) (ff_213_3 (frm_refl _ _) rfl)
  · exact fin_plain (wf_213_2 hW (by omega) (by omega)) (vin (by omega) (by omega)) (ff_213_2 (frm_refl _ _) rfl)
def cc_X10_sign : aC := (102, 3, [(2, 0, 0, 10)], some (0, 0, 36, 1), [], 0, [10], [], [], [])
set_option maxRecDepth 20000 in
set_option maxHeartbeats 4000000 in
theorem ca_X8_codeOf {G : zG} {us : Nat} (c : Int) (H : PH)  : Ca G us 2 73 [(0, c)] H (fun r H' => H = H' ∧ ∃ x, r = some (0, x) ∧ (x = 0 ∨ (48 ≤ c ∧ 1 ≤ x ∧ x ≤ 36))) := by
  refine ⟨_, _, _, _, _, _, vm_X8_codeOf, by simp [pcat], ?_⟩
  refine tr_lab (D := 1) (t := 0) vb_X8_codeOf_0 _ ve_X8_codeOf_0 ?_
  simp (maxDischargeDepth := 12) [vb_X8_codeOf_0, wB, wI, k1, kI, kR, kL, k2, pget, pget_pset, pnl_pset, pnl_cons, pnl_nil, parg, ppush, pcat, zw_lit, zw_m1, zw_m2, zw_m3, zNC_eq, zrow, pup_app, sh_590]
  repeat' (with_reducible (first | (refine And.intro ?_ ?_) | intro _))
  all_goals try (refine Ca_use (ca_X11_within _ _ _ _) (by omega) ?_; rintro _ _ ⟨rfl, rfl⟩; simp (maxDischargeDepth := 12) [wB, wI, k1, kI, kR, kL, k2, pget, pget_pset, pnl_pset, pnl_cons, pnl_nil, parg, ppush, pcat, zw_lit, zw_m1, zw_m2, zw_m3, zNC_eq, zrow, pup_app, sh_590])
  all_goals repeat' (with_reducible (first | (refine And.intro ?_ ?_) | intro _))
  all_goals try (refine tr_lab (D := 1) (t := 18) vb_X8_codeOf_18 _ ve_X8_codeOf_18 ?_; simp (maxDischargeDepth := 12) [vb_X8_codeOf_18, wB, wI, k1, kI, kR, kL, k2, pget, pget_pset, pnl_pset, pnl_cons, pnl_nil, parg, ppush, pcat, zw_lit, zw_m1, zw_m2, zw_m3, zNC_eq, zrow, pup_app, sh_590])
  all_goals repeat' (with_reducible (first | (refine And.intro ?_ ?_) | intro _))
  all_goals try (refine Ca_use (ca_X11_within _ _ _ _) (by omega) ?_; rintro _ _ ⟨rfl, rfl⟩; simp (maxDischargeDepth := 12) [wB, wI, k1, kI, kR, kL, k2, pget, pget_pset, pnl_pset, pnl_cons, pnl_nil, parg, ppush, pcat, zw_lit, zw_m1, zw_m2, zw_m3, zNC_eq, zrow, pup_app, sh_590])
  all_goals repeat' (with_reducible (first | (refine And.intro ?_ ?_) | intro _))
  all_goals try (refine tr_lab (D := 1) (t := 39) vb_X8_codeOf_39 _ ve_X8_codeOf_39 ?_; simp (maxDischargeDepth := 12) [vb_X8_codeOf_39, wB, wI, k1, kI, kR, kL, k2, pget, pget_pset, pnl_pset, pnl_cons, pnl_nil, parg, ppush, pcat, zw_lit, zw_m1, zw_m2, zw_m3, zNC_eq, zrow, pup_app, sh_590])
  all_goals repeat' (with_reducible (first | (refine And.intro ?_ ?_) | intro _))
  all_goals try (refine tr_lab (D := 1) (t := 40) vb_X8_codeOf_40 _ ve_X8_codeOf_40 ?_; simp (maxDischargeDepth := 12) [vb_X8_codeOf_40, wB, wI, k1, kI, kR, kL, k2, pget, pget_pset, pnl_pset, pnl_cons, pnl_nil, parg, ppush, pcat, zw_lit, zw_m1, zw_m2, zw_m3, zNC_eq, zrow, pup_app, sh_590])
  all_goals repeat' (with_reducible (first | (refine And.intro ?_ ?_) | intro _))
  all_goals (first | omega | (simp (disch := omega) only [zw_lit]; omega))

set_option maxRecDepth 20000 in
set_option maxHeartbeats 4000000 in
theorem ca_X10_sign {G : zG} {us : Nat}  (H : PH) (h0 : 0 ≤ H 213 2) (h1 : H 213 2 ≤ 600) (h2 : H 213 1 ≤ 600) : Ca G us 3 102 [(2, 213)] H (fun r H' => (r = some (0, 0) ∧ H' = pup H 213 3 (H 213 2)) ∨ ((∃ x, r = some (0, x) ∧ 0 ≤ x ∧ x ≤ 36) ∧ H 213 2 < H 213 1 ∧ H' = pup H 213 2 (H 213 2 + 1))) := by
  have hb := nx_b H
  refine ⟨_, _, _, _, _, _, vm_X10_sign, by simp [pcat], ?_⟩
  refine tr_lab (D := 2) (t := 0) vb_X10_sign_0 _ ve_X10_sign_0 ?_
  simp (maxDischargeDepth := 12) [vb_X10_sign_0, wB, wI, k1, kI, kR, kL, k2, pget, pget_pset, pnl_pset, pnl_cons, pnl_nil, parg, ppush, pcat, zw_lit, zw_m1, zw_m2, zw_m3, zNC_eq, zrow, pup_app, gv_213_2, pe, tg_10_2, zfit, zisI, sh_590, sh_213]
  repeat' (with_reducible (first | (refine And.intro ?_ ?_) | intro _))
  all_goals try (refine Ca_use (ca_X10_next _ (by first | omega | (simp (disch := omega) [pup_app, zw_lit] <;> omega)) (by first | omega | (simp (disch := omega) [pup_app, zw_lit] <;> omega)) (by first | omega | (simp (disch := omega) [pup_app, zw_lit] <;> omega))) (by omega) ?_; rintro _ _ ⟨rfl, rfl⟩; simp (maxDischargeDepth := 12) [wB, wI, k1, kI, kR, kL, k2, pget, pget_pset, pnl_pset, pnl_cons, pnl_nil, parg, ppush, pcat, zw_lit, zw_m1, zw_m2, zw_m3, zNC_eq, zrow, pup_app, gv_213_2, pe, tg_10_2, zfit, zisI, sh_590, sh_213])
  all_goals repeat' (with_reducible (first | (refine And.intro ?_ ?_) | intro _))
  all_goals try (refine Ca_use (ca_X8_codeOf _ _) (by omega) ?_; rintro _ _ ⟨rfl, x, rfl, hx⟩; simp (maxDischargeDepth := 12) [wB, wI, k1, kI, kR, kL, k2, pget, pget_pset, pnl_pset, pnl_cons, pnl_nil, parg, ppush, pcat, zw_lit, zw_m1, zw_m2, zw_m3, zNC_eq, zrow, pup_app, gv_213_2, pe, tg_10_2, zfit, zisI, sh_590, sh_213])
  all_goals repeat' (with_reducible (first | (refine And.intro ?_ ?_) | intro _))
  all_goals try (refine Ca_use (ca_X10_fail _ _) (by omega) ?_; rintro _ _ ⟨rfl, rfl⟩; simp (maxDischargeDepth := 12) [wB, wI, k1, kI, kR, kL, k2, pget, pget_pset, pnl_pset, pnl_cons, pnl_nil, parg, ppush, pcat, zw_lit, zw_m1, zw_m2, zw_m3, zNC_eq, zrow, pup_app, gv_213_2, pe, tg_10_2, zfit, zisI, sh_590, sh_213])
  all_goals repeat' (with_reducible (first | (refine And.intro ?_ ?_) | intro _))
  all_goals try (refine tr_lab (D := 2) (t := 23) vb_X10_sign_23 _ ve_X10_sign_23 ?_; simp (maxDischargeDepth := 12) [vb_X10_sign_23, wB, wI, k1, kI, kR, kL, k2, pget, pget_pset, pnl_pset, pnl_cons, pnl_nil, parg, ppush, pcat, zw_lit, zw_m1, zw_m2, zw_m3, zNC_eq, zrow, pup_app, gv_213_2, pe, tg_10_2, zfit, zisI, sh_590, sh_213])
  all_goals repeat' (with_reducible (first | (refine And.intro ?_ ?_) | intro _))
  all_goals (first | omega | (refine Or.inr ⟨by omega, ?_, ?_⟩ <;> (first | omega | (simp only [zw] at *; omega) | (simp (disch := omega) only [zw_lit]))))

theorem ct_X10_sign : CtOK cc_X10_sign := by
  intro G us g H as hg hW ha hp
  obtain ⟨p0, rfl, A0⟩ := aargs1 ha
  have e0 := arg_sing (n := 213) A0 rfl
  subst e0
  have t1 := rf_213_1 hW
  have t2 := rf_213_2 hW
  have t3 := rf_213_3 hW
  refine Ca_use (ca_X10_sign H t2.1 t2.2 t1.2) (Nat.le_refl _) ?_
  rintro r H' (⟨rfl, rfl⟩ | ⟨⟨x, rfl, hx0, hx1⟩, hlt, rfl⟩)
  · exact fin_plain (wf_213_3 hW (by omega) (by omega)) (vin (by omega) (by omega)) (ff_213_3 (frm_refl _ _) rfl)
  · exact fin_plain (wf_213_2 hW (by omega) (by omega)) (vin (by omega) (by omega)) (ff_213_2 (frm_refl _ _) rfl)
def cc_X10_digits : aC := (100, 2, [(2, 0, 0, 10), (0, 0, 9, 1)], some (0, -2147483648, 2147483647, 1), [], 0, [10], [], [], [])
set_option maxRecDepth 20000 in
set_option maxHeartbeats 4000000 in
theorem ca_X10_isDigit {G : zG} {us : Nat} (c : Int) (H : PH)  : Ca G us 1 98 [(0, c)] H (fun r H' => H = H' ∧ r = some (0, if 48 ≤ c ∧ c ≤ 57 then 1 else 0)) := by
  refine ⟨_, _, _, _, _, _, vm_X10_isDigit, by simp [pcat], ?_⟩
  refine tr_lab (D := 0) (t := 0) vb_X10_isDigit_0 _ ve_X10_isDigit_0 ?_
  simp (maxDischargeDepth := 12) [vb_X10_isDigit_0, wB, wI, k1, kI, kR, kL, k2, pget, pget_pset, pnl_pset, pnl_cons, pnl_nil, parg, ppush, pcat, zw_lit, zw_m1, zw_m2, zw_m3, zNC_eq, zrow, pup_app, sh_590]
  repeat' (with_reducible (first | (refine And.intro ?_ ?_) | intro _))
  all_goals try (refine tr_lab (D := 0) (t := 16) vb_X10_isDigit_16 _ ve_X10_isDigit_16 ?_; simp (maxDischargeDepth := 12) [vb_X10_isDigit_16, wB, wI, k1, kI, kR, kL, k2, pget, pget_pset, pnl_pset, pnl_cons, pnl_nil, parg, ppush, pcat, zw_lit, zw_m1, zw_m2, zw_m3, zNC_eq, zrow, pup_app, sh_590])
  all_goals repeat' (with_reducible (first | (refine And.intro ?_ ?_) | intro _))
  all_goals try (refine tr_lab (D := 0) (t := 17) vb_X10_isDigit_17 _ ve_X10_isDigit_17 ?_; simp (maxDischargeDepth := 12) [vb_X10_isDigit_17, wB, wI, k1, kI, kR, kL, k2, pget, pget_pset, pnl_pset, pnl_cons, pnl_nil, parg, ppush, pcat, zw_lit, zw_m1, zw_m2, zw_m3, zNC_eq, zrow, pup_app, sh_590])
  all_goals repeat' (with_reducible (first | (refine And.intro ?_ ?_) | intro _))
  all_goals omega

set_option maxRecDepth 20000 in
set_option maxHeartbeats 4000000 in
theorem lp_X10_digits_16 {G : zG} {us : Nat} {g : Nat → Nat → Int} (hg : GOK g) (H0 : PH) (m t : Int)  (ht : t ≤ 600) : ∀ (n : Nat) (ls : PL) (H : PH) (v : Int), (600 - H 213 2).toNat < n → pnl ls → pget ls 0 = some (2, 213) → pget ls 1 = some (0, m) → pget ls 2 = some (0, v) → pget ls 3 = some (0, t) → WT 0 g H → frm [10] H0 H → zIn v → Tr G us kd_X10_digits 2 (zget kd_X10_digits 16) 16 ls [] H (fun r H' => WT 0 g H' ∧ frm [10] H0 H' ∧ ∃ x, r = some (0, x) ∧ zIn x) := by
  intro n
  induction n with
  | zero => intros; omega
  | succ n ih =>
    intro ls H v hn hnl l0 l1 l2 l3 hW hF hv
    have t1 := rf_213_1 hW
    have t2 := rf_213_2 hW
    refine tr_lab (D := 1) (t := 16) vb_X10_digits_16 _ ve_X10_digits_16 ?_
    simp (maxDischargeDepth := 12) [vb_X10_digits_16, wB, wI, k1, kI, kR, kL, k2, pget, pget_pset, pnl_pset, pnl_cons, pnl_nil, parg, ppush, pcat, zw_lit, zw_m1, zw_m2, zw_m3, zNC_eq, zrow, pup_app, gv_213_0, gv_213_1, gv_213_2, pe, tg_10_0, tg_10_1, tg_10_2, zfit, zisI, sh_590, sh_213, sh_214, hnl, l0, l1, l2, l3]
    repeat' (with_reducible (first | (refine And.intro ?_ ?_) | intro _))
    all_goals try (refine Ca_use (ca_X10_isDigit _ _) (by omega) ?_; rintro _ _ ⟨rfl, rfl⟩; simp (maxDischargeDepth := 12) [wB, wI, k1, kI, kR, kL, k2, pget, pget_pset, pnl_pset, pnl_cons, pnl_nil, parg, ppush, pcat, zw_lit, zw_m1, zw_m2, zw_m3, zNC_eq, zrow, pup_app, gv_213_0, gv_213_1, gv_213_2, pe, tg_10_0, tg_10_1, tg_10_2, zfit, zisI, sh_590, sh_213, sh_214, hnl, l0, l1, l2, l3])
    all_goals repeat' (with_reducible (first | (refine And.intro ?_ ?_) | intro _))
    all_goals try (refine tr_lab (D := 1) (t := 70) vb_X10_digits_70 _ ve_X10_digits_70 ?_; simp (maxDischargeDepth := 12) [vb_X10_digits_70, wB, wI, k1, kI, kR, kL, k2, pget, pget_pset, pnl_pset, pnl_cons, pnl_nil, parg, ppush, pcat, zw_lit, zw_m1, zw_m2, zw_m3, zNC_eq, zrow, pup_app, gv_213_0, gv_213_1, gv_213_2, pe, tg_10_0, tg_10_1, tg_10_2, zfit, zisI, sh_590, sh_213, sh_214, hnl, l0, l1, l2, l3])
    all_goals repeat' (with_reducible (first | (refine And.intro ?_ ?_) | intro _))
    all_goals try (refine ih _ _ _ ?_ ?_ ?_ ?_ ?_ ?_ ?_ ?_ ?_)
    all_goals try simp (maxDischargeDepth := 12) [pget_pset, pnl_pset, pnl_cons, pnl_nil, pget, hnl, pup_app, l0, l1, l2, l3]
    all_goals (first | omega | assumption | exact zw_in _ | ((repeat (first | assumption | exact frm_refl _ _ | (refine wf_213_2 ?_ (by (first | omega | exact zw_lo _ | exact zw_hi _ | ((simp (disch := omega) only [zw_lit, pup_app]) <;> omega) | ((simp (disch := omega) [zw_lit, pup_app]) <;> omega) | (simp only [zw]; omega))) (by (first | omega | exact zw_lo _ | exact zw_hi _ | ((simp (disch := omega) only [zw_lit, pup_app]) <;> omega) | ((simp (disch := omega) [zw_lit, pup_app]) <;> omega) | (simp only [zw]; omega)))) | (refine ff_213_2 ?_ rfl))); done) |  (first | omega | exact zw_lo _ | exact zw_hi _ | ((simp (disch := omega) only [zw_lit, pup_app]) <;> omega) | ((simp (disch := omega) [zw_lit, pup_app]) <;> omega) | (simp only [zw]; omega)))

set_option maxRecDepth 20000 in
set_option maxHeartbeats 4000000 in
theorem ca_X10_digits {G : zG} {us : Nat} {g : Nat → Nat → Int} (hg : GOK g) (m : Int) (H : PH) (hW : WT 0 g H) : Ca G us 2 100 [(2, 213), (0, m)] H (fun r H' => WT 0 g H' ∧ frm [10] H H' ∧ ∃ x, r = some (0, x) ∧ zIn x) := by
  have t1 := rf_213_1 hW
  have t2 := rf_213_2 hW
  refine ⟨_, _, _, _, _, _, vm_X10_digits, by simp [pcat], ?_⟩
  refine tr_lab (D := 1) (t := 0) vb_X10_digits_0 _ ve_X10_digits_0 ?_
  simp (maxDischargeDepth := 12) [vb_X10_digits_0, wB, wI, k1, kI, kR, kL, k2, pget, pget_pset, pnl_pset, pnl_cons, pnl_nil, parg, ppush, pcat, zw_lit, zw_m1, zw_m2, zw_m3, zNC_eq, zrow, pup_app, gv_213_0, gv_213_1, gv_213_2, pe, tg_10_0, tg_10_1, tg_10_2, zfit, zisI, sh_590, sh_213]
  repeat' (with_reducible (first | (refine And.intro ?_ ?_) | intro _))
  all_goals try ((refine lp_X10_digits_16 hg H m _ _ 601 _ _ _ ?_ ?_ ?_ ?_ ?_ ?_ ?_ ?_ ?_) <;> (try simp (maxDischargeDepth := 12) [pget_pset, pnl_pset, pnl_cons, pnl_nil, pget, pup_app, *]))
  all_goals (first | omega | exact frm_refl _ _ | (split <;> omega) | (constructor <;> omega))

theorem ct_X10_digits : CtOK cc_X10_digits := by
  intro G us g H as hg hW ha hp
  obtain ⟨p0, p1, rfl, A0, A1⟩ := aargs2 ha
  have e0 := arg_sing (n := 213) A0 rfl
  subst e0
  obtain ⟨c, rfl, c1, c2, _⟩ := arg_int A1
  refine Ca_use (ca_X10_digits hg c H hW) (Nat.le_refl _) ?_
  rintro r H' ⟨w, f, x, rfl, hx⟩
  exact fin_plain w (aval_top hx) f
def cc_X10_amount : aC := (101, 3, [(2, 0, 0, 10), (0, 0, 9, 1)], some (0, -2147483648, 2147483647, 1), [], 0, [10], [], [], [])
set_option maxRecDepth 20000 in
set_option maxHeartbeats 4000000 in
theorem ca_X10_amount {G : zG} {us : Nat} {g : Nat → Nat → Int} (hg : GOK g) (m : Int) (H : PH) (hW : WT 0 g H) : Ca G us 3 101 [(2, 213), (0, m)] H (fun r H' => WT 0 g H' ∧ frm [10] H H' ∧ ∃ x, r = some (0, x) ∧ zIn x) := by
  have t1 := rf_213_1 hW
  have t2 := rf_213_2 hW
  refine ⟨_, _, _, _, _, _, vm_X10_amount, by simp [pcat], ?_⟩
  refine tr_lab (D := 2) (t := 0) vb_X10_amount_0 _ ve_X10_amount_0 ?_
  simp (maxDischargeDepth := 12) [vb_X10_amount_0, wB, wI, k1, kI, kR, kL, k2, pget, pget_pset, pnl_pset, pnl_cons, pnl_nil, parg, ppush, pcat, zw_lit, zw_m1, zw_m2, zw_m3, zNC_eq, zrow, pup_app, gv_213_2, tg_10_2, sh_590, sh_213]
  repeat' (with_reducible (first | (refine And.intro ?_ ?_) | intro _))
  all_goals try (refine Ca_use (ca_X10_next _ (by first | omega | (simp (disch := omega) [pup_app, zw_lit] <;> omega)) (by first | omega | (simp (disch := omega) [pup_app, zw_lit] <;> omega)) (by first | omega | (simp (disch := omega) [pup_app, zw_lit] <;> omega))) (by omega) ?_; rintro _ _ ⟨rfl, rfl⟩; simp (maxDischargeDepth := 12) [wB, wI, k1, kI, kR, kL, k2, pget, pget_pset, pnl_pset, pnl_cons, pnl_nil, parg, ppush, pcat, zw_lit, zw_m1, zw_m2, zw_m3, zNC_eq, zrow, pup_app, gv_213_2, tg_10_2, sh_590, sh_213])
  all_goals repeat' (with_reducible (first | (refine And.intro ?_ ?_) | intro _))
  all_goals try (refine Ca_use (ca_X10_isDigit _ _) (by omega) ?_; rintro _ _ ⟨rfl, rfl⟩; simp (maxDischargeDepth := 12) [wB, wI, k1, kI, kR, kL, k2, pget, pget_pset, pnl_pset, pnl_cons, pnl_nil, parg, ppush, pcat, zw_lit, zw_m1, zw_m2, zw_m3, zNC_eq, zrow, pup_app, gv_213_2, tg_10_2, sh_590, sh_213])
  all_goals repeat' (with_reducible (first | (refine And.intro ?_ ?_) | intro _))
  all_goals try (refine Ca_use (ca_X10_next _ (by first | omega | (simp (disch := omega) [pup_app, zw_lit] <;> omega)) (by first | omega | (simp (disch := omega) [pup_app, zw_lit] <;> omega)) (by first | omega | (simp (disch := omega) [pup_app, zw_lit] <;> omega))) (by omega) ?_; rintro _ _ ⟨rfl, rfl⟩; simp (maxDischargeDepth := 12) [wB, wI, k1, kI, kR, kL, k2, pget, pget_pset, pnl_pset, pnl_cons, pnl_nil, parg, ppush, pcat, zw_lit, zw_m1, zw_m2, zw_m3, zNC_eq, zrow, pup_app, gv_213_2, tg_10_2, sh_590, sh_213])
  all_goals repeat' (with_reducible (first | (refine And.intro ?_ ?_) | intro _))
  all_goals try (refine tr_lab (D := 2) (t := 19) vb_X10_amount_19 _ ve_X10_amount_19 ?_; simp (maxDischargeDepth := 12) [vb_X10_amount_19, wB, wI, k1, kI, kR, kL, k2, pget, pget_pset, pnl_pset, pnl_cons, pnl_nil, parg, ppush, pcat, zw_lit, zw_m1, zw_m2, zw_m3, zNC_eq, zrow, pup_app, gv_213_2, tg_10_2, sh_590, sh_213])
  all_goals repeat' (with_reducible (first | (refine And.intro ?_ ?_) | intro _))
  all_goals try (refine Ca_use (ca_X10_fail _ _) (by omega) ?_; rintro _ _ ⟨rfl, rfl⟩; simp (maxDischargeDepth := 12) [wB, wI, k1, kI, kR, kL, k2, pget, pget_pset, pnl_pset, pnl_cons, pnl_nil, parg, ppush, pcat, zw_lit, zw_m1, zw_m2, zw_m3, zNC_eq, zrow, pup_app, gv_213_2, tg_10_2, sh_590, sh_213])
  all_goals repeat' (with_reducible (first | (refine And.intro ?_ ?_) | intro _))
  all_goals try (refine tr_lab (D := 2) (t := 30) vb_X10_amount_30 _ ve_X10_amount_30 ?_; simp (maxDischargeDepth := 12) [vb_X10_amount_30, wB, wI, k1, kI, kR, kL, k2, pget, pget_pset, pnl_pset, pnl_cons, pnl_nil, parg, ppush, pcat, zw_lit, zw_m1, zw_m2, zw_m3, zNC_eq, zrow, pup_app, gv_213_2, tg_10_2, sh_590, sh_213])
  all_goals repeat' (with_reducible (first | (refine And.intro ?_ ?_) | intro _))
  all_goals try (refine Ca_use (ca_X10_digits hg _ _ (by assumption)) (by omega) ?_; rintro _ _ ⟨hW2, hF2, x, rfl, hx⟩; simp (maxDischargeDepth := 12) [wB, wI, k1, kI, kR, kL, k2, pget, pget_pset, pnl_pset, pnl_cons, pnl_nil, parg, ppush, pcat, zw_lit, zw_m1, zw_m2, zw_m3, zNC_eq, zrow, pup_app, gv_213_2, tg_10_2, sh_590, sh_213])
  all_goals repeat' (with_reducible (first | (refine And.intro ?_ ?_) | intro _))
  all_goals (first | omega | assumption | exact zw_in _ | ((repeat (first | assumption | exact frm_refl _ _ | (refine wf_213_3 ?_ (by (first | omega | exact zw_lo _ | exact zw_hi _ | ((simp (disch := omega) only [zw_lit, pup_app]) <;> omega) | ((simp (disch := omega) [zw_lit, pup_app]) <;> omega) | (simp only [zw]; omega))) (by (first | omega | exact zw_lo _ | exact zw_hi _ | ((simp (disch := omega) only [zw_lit, pup_app]) <;> omega) | ((simp (disch := omega) [zw_lit, pup_app]) <;> omega) | (simp only [zw]; omega)))) | (refine ff_213_3 ?_ rfl))); done) | (exact ⟨wf_213_3 hW (by omega) (by omega), ff_213_3 (frm_refl _ _) rfl, (by constructor <;> omega)⟩) |  (first | omega | exact zw_lo _ | exact zw_hi _ | ((simp (disch := omega) only [zw_lit, pup_app]) <;> omega) | ((simp (disch := omega) [zw_lit, pup_app]) <;> omega) | (simp only [zw]; omega)))

theorem ct_X10_amount : CtOK cc_X10_amount := by
  intro G us g H as hg hW ha hp
  obtain ⟨p0, p1, rfl, A0, A1⟩ := aargs2 ha
  have e0 := arg_sing (n := 213) A0 rfl
  subst e0
  obtain ⟨c, rfl, c1, c2, _⟩ := arg_int A1
  refine Ca_use (ca_X10_amount hg c H hW) (Nat.le_refl _) ?_
  rintro r H' ⟨w, f, x, rfl, hx⟩
  exact fin_plain w (aval_top hx) f
