def cc_X11_isBill : aC := (146, 2, [(2, 0, 0, 11), (0, -2147483648, 2147483647, 1)], some (0, 0, 1, 1), [(1, 1, 1, 0, 11)], 0, [], [], [], [])
set_option maxRecDepth 20000 in
set_option maxHeartbeats 4000000 in
theorem ca_X11_isBill {G : zG} {us : Nat} (b : Int) (H : PH) (h0 : 0 ≤ H 1 2) (h1 : H 1 2 ≤ 12) : Ca G us 2 146 [(2, 0), (0, b)] H (fun r H' => H = H' ∧ r = some (0, if 0 ≤ b ∧ b ≤ H 1 2 - 1 then 1 else 0)) := by
  refine ⟨_, _, _, _, _, _, vm_X11_isBill, by simp [pcat], ?_⟩
  refine tr_lab (D := 1) (t := 0) vb_X11_isBill_0 _ ve_X11_isBill_0 ?_
  simp (maxDischargeDepth := 12) [vb_X11_isBill_0, wB, wI, k1, kI, kR, kL, k2, pget, pget_pset, pnl_pset, pnl_cons, pnl_nil, parg, ppush, pcat, zw_lit, zw_m1, zw_m2, zw_m3, zNC_eq, zrow, pup_app, gv_0_0, gv_1_2, tg_11_0, tg_1_2, sh_590, sh_0, sh_1]
  repeat' (with_reducible (first | (refine And.intro ?_ ?_) | intro _))
  all_goals try (refine Ca_use (ca_X11_within _ _ _ _) (by omega) ?_; rintro _ _ ⟨rfl, rfl⟩; simp (maxDischargeDepth := 12) [wB, wI, k1, kI, kR, kL, k2, pget, pget_pset, pnl_pset, pnl_cons, pnl_nil, parg, ppush, pcat, zw_lit, zw_m1, zw_m2, zw_m3, zNC_eq, zrow, pup_app, gv_0_0, gv_1_2, tg_11_0, tg_1_2, sh_590, sh_0, sh_1])
  all_goals repeat' (with_reducible (first | (refine And.intro ?_ ?_) | intro _))
  all_goals (first | omega | ((simp (disch := omega) only [zw_lit]) <;> omega) | (simp only [zw]; omega))

theorem ct_X11_isBill : CtOK cc_X11_isBill := by
  intro G us g H as hg hW ha hp
  obtain ⟨p0, p1, rfl, A0, A1⟩ := aargs2 ha
  have e0 := arg_sing (n := 0) A0 rfl
  subst e0
  obtain ⟨b, rfl, b1, b2, _⟩ := arg_int A1
  have h3 : 0 ≤ H 1 2 ∧ H 1 2 ≤ 12 := rf_1_2 hW
  refine Ca_use (ca_X11_isBill b H h3.1 h3.2) (Nat.le_refl _) ?_
  rintro r H' ⟨rfl, rfl⟩
  refine fin_pure hW b01i (fact1 (j := 1) (v := b) rfl (fun q _ => ?_))
  have := if_ne (fun e => by rw [e] at q; omega); omega
def cc_X12_isLine : aC := (199, 2, [(2, 0, 0, 12), (0, -2147483648, 2147483647, 1)], some (0, 0, 1, 1), [(1, 1, 1, 0, 59)], 0, [], [], [], [])

theorem ct_X12_isLine : CtOK cc_X12_isLine := by
  intro G us g H as hg hW ha hp
  obtain ⟨p0, p1, rfl, A0, A1⟩ := aargs2 ha
  have e0 := arg_sing (n := 590) A0 rfl
  subst e0
  obtain ⟨b, rfl, b1, b2, _⟩ := arg_int A1
  have h3 : 0 ≤ H 591 2 ∧ H 591 2 ≤ 60 := WT_rf (c := 591) (i := 2) hW (by decide +kernel)
  refine Ca_use (ca_X12_isLine b H h3.1 h3.2) (Nat.le_refl _) ?_
  rintro r H' ⟨rfl, rfl⟩
  refine fin_pure hW b01i (fact1 (j := 1) (v := b) rfl (fun q _ => ?_))
  have := if_ne (fun e => by rw [e] at q; omega); omega
def cc_X12_isHold : aC := (240, 2, [(0, -2147483648, 2147483647, 1)], some (0, 0, 1, 1), [(1, 1, 0, 0, 4)], 0, [], [], [], [])

theorem ct_X12_isHold : CtOK cc_X12_isHold := by
  intro G us g H as hg hW ha hp
  obtain ⟨p0, rfl, A0⟩ := aargs1 ha
  obtain ⟨b, rfl, b1, b2, _⟩ := arg_int A0
  refine Ca_use (ca_X12_isHold b H) (Nat.le_refl _) ?_
  rintro r H' ⟨rfl, rfl⟩
  refine fin_pure hW b01i (fact1 (j := 0) (v := b) rfl (fun q _ => ?_))
  have := if_ne (fun e => by rw [e] at q; omega); omega
def cc_X10_skip : aC := (97, 2, [(2, 0, 0, 10), (0, 0, 255, 1)], some (0, 0, 1, 1), [], 0, [10], [], [], [])
set_option maxRecDepth 20000 in
set_option maxHeartbeats 4000000 in
theorem ca_X10_skip {G : zG} {us : Nat} (c : Int) (H : PH) (h0 : 0 ≤ H 213 2) (h1 : H 213 2 ≤ 600) (h2 : H 213 1 ≤ 600) (hc : 0 ≤ c) : Ca G us 2 97 [(2, 213), (0, c)] H (fun r H' => (r = some (0, 0) ∧ H' = pup H 213 3 (H 213 2)) ∨ (r = some (0, 1) ∧ H 213 2 < H 213 1 ∧ H' = pup H 213 2 (H 213 2 + 1))) := by
  have hb := nx_b H
  refine ⟨_, _, _, _, _, _, vm_X10_skip, by simp [pcat], ?_⟩
  refine tr_lab (D := 1) (t := 0) vb_X10_skip_0 _ ve_X10_skip_0 ?_
  simp (maxDischargeDepth := 12) [vb_X10_skip_0, wB, wI, k1, kI, kR, kL, k2, pget, pget_pset, pnl_pset, pnl_cons, pnl_nil, parg, ppush, pcat, zw_lit, zw_m1, zw_m2, zw_m3, zNC_eq, zrow, pup_app, gv_213_2, pe, tg_10_2, zfit, zisI, sh_590, sh_213]
  repeat' (with_reducible (first | (refine And.intro ?_ ?_) | intro _))
  all_goals try (refine Ca_use (ca_X10_next _ (by first | omega | (simp (disch := omega) [pup_app, zw_lit] <;> omega)) (by first | omega | (simp (disch := omega) [pup_app, zw_lit] <;> omega)) (by first | omega | (simp (disch := omega) [pup_app, zw_lit] <;> omega))) (by omega) ?_; rintro _ _ ⟨rfl, rfl⟩; simp (maxDischargeDepth := 12) [wB, wI, k1, kI, kR, kL, k2, pget, pget_pset, pnl_pset, pnl_cons, pnl_nil, parg, ppush, pcat, zw_lit, zw_m1, zw_m2, zw_m3, zNC_eq, zrow, pup_app, gv_213_2, pe, tg_10_2, zfit, zisI, sh_590, sh_213])
  all_goals repeat' (with_reducible (first | (refine And.intro ?_ ?_) | intro _))
  all_goals try (refine Ca_use (ca_X10_fail _ _) (by omega) ?_; rintro _ _ ⟨rfl, rfl⟩; simp (maxDischargeDepth := 12) [wB, wI, k1, kI, kR, kL, k2, pget, pget_pset, pnl_pset, pnl_cons, pnl_nil, parg, ppush, pcat, zw_lit, zw_m1, zw_m2, zw_m3, zNC_eq, zrow, pup_app, gv_213_2, pe, tg_10_2, zfit, zisI, sh_590, sh_213])
  all_goals repeat' (with_reducible (first | (refine And.intro ?_ ?_) | intro _))
  all_goals try (refine tr_lab (D := 1) (t := 17) vb_X10_skip_17 _ ve_X10_skip_17 ?_; simp (maxDischargeDepth := 12) [vb_X10_skip_17, wB, wI, k1, kI, kR, kL, k2, pget, pget_pset, pnl_pset, pnl_cons, pnl_nil, parg, ppush, pcat, zw_lit, zw_m1, zw_m2, zw_m3, zNC_eq, zrow, pup_app, gv_213_2, pe, tg_10_2, zfit, zisI, sh_590, sh_213])
  all_goals repeat' (with_reducible (first | (refine And.intro ?_ ?_) | intro _))
  all_goals (first | omega | ((simp (disch := omega) only [zw_lit]) <;> omega) | (refine ⟨?_, ?_⟩ <;> (first | omega | ((simp (disch := omega) only [zw_lit])))) | (refine Or.inr ⟨?_, ?_⟩ <;> (first | omega | ((simp (disch := omega) only [zw_lit])))))

theorem ct_X10_skip : CtOK cc_X10_skip := by
  intro G us g H as hg hW ha hp
  obtain ⟨p0, p1, rfl, A0, A1⟩ := aargs2 ha
  have e0 := arg_sing (n := 213) A0 rfl
  subst e0
  obtain ⟨c, rfl, c1, c2, _⟩ := arg_int A1
  have t1 := rf_213_1 hW
  have t2 := rf_213_2 hW
  have t3 := rf_213_3 hW
  refine Ca_use (ca_X10_skip c H t2.1 t2.2 t1.2 c1) (Nat.le_refl _) ?_
  rintro r H' (⟨rfl, rfl⟩ | ⟨rfl, hlt, rfl⟩)
  · exact fin_plain (wf_213_3 hW (by omega) (by omega)) (b01 (Or.inl rfl)) (ff_213_3 (frm_refl _ _) rfl)
  · exact fin_plain (wf_213_2 hW (by omega) (by omega)) (b01 (Or.inr rfl)) (ff_213_2 (frm_refl _ _) rfl)
