/-! ===== methods by hand ===== -/
set_option maxRecDepth 20000 in
set_option maxHeartbeats 4000000 in
theorem ca_X11_isBill {G : zG} {us : Nat} (b : Int) (H : PH) (h0 : 0 ≤ H 1 2) (h1 : H 1 2 ≤ 12) : Ca G us 2 146 [(2, 0), (0, b)] H (fun r H' => H = H' ∧ r = some (0, if 0 ≤ b ∧ b ≤ H 1 2 - 1 then 1 else 0)) := by
  refine ⟨_, _, _, _, _, _, vm_X11_isBill, by simp [pcat], ?_⟩
  refine tr_lab (D := 1) (t := 0) vb_X11_isBill_0 _ ve_X11_isBill_0 ?_
  simp (maxDischargeDepth := 12) [vb_X11_isBill_0, wB, wI, k1, kI, kR, kL, k2, pget, pget_pset, pnl_pset, pnl_cons, pnl_nil, parg, ppush, pcat, zw_lit, zw_m1, zw_m2, zw_m3, zNC_eq, zrow, pup_app, gv_0_0, gv_1_2, tg_11_0, tg_1_2, sh_590, sh_0, sh_1]
  repeat' (with_reducible (first | (refine And.intro ?_ ?_) | intro _))
  all_goals try (refine Ca_use (ca_X11_within _ _ _ _) (by omega) ?_; rintro _ _ ⟨rfl, rfl⟩; simp (maxDischargeDepth := 12) [wB, wI, k1, kI, kR, kL, k2, pget, pget_pset, pnl_pset, pnl_cons, pnl_nil, parg, ppush, pcat, zw_lit, zw_m1, zw_m2, zw_m3, zNC_eq, zrow, pup_app, gv_0_0, gv_1_2, tg_11_0, tg_1_2, sh_590, sh_0, sh_1])
  all_goals repeat' (with_reducible (first | (refine And.intro ?_ ?_) | intro _))
  all_goals (first | omega | ((simp (disch := omega) only [zw_lit]) <;> omega) | (simp only [zw]; omega))


set_option maxRecDepth 20000 in
set_option maxHeartbeats 4000000 in
theorem ca_X11_isLine {G : zG} {us : Nat} (b : Int) (H : PH) (h0 : 0 ≤ H 1 4) (h1 : H 1 4 ≤ 60) : Ca G us 2 147 [(2, 0), (0, b)] H (fun r H' => H = H' ∧ r = some (0, if 0 ≤ b ∧ b ≤ H 1 4 - 1 then 1 else 0)) := by
  refine ⟨_, _, _, _, _, _, vm_X11_isLine, by simp [pcat], ?_⟩
  refine tr_lab (D := 1) (t := 0) vb_X11_isLine_0 _ ve_X11_isLine_0 ?_
  simp (maxDischargeDepth := 12) [vb_X11_isLine_0, wB, wI, k1, kI, kR, kL, k2, pget, pget_pset, pnl_pset, pnl_cons, pnl_nil, parg, ppush, pcat, zw_lit, zw_m1, zw_m2, zw_m3, zNC_eq, zrow, pup_app, gv_0_0, gv_1_4, tg_11_0, tg_1_4, sh_590, sh_0, sh_1]
  repeat' (with_reducible (first | (refine And.intro ?_ ?_) | intro _))
  all_goals try (refine Ca_use (ca_X11_within _ _ _ _) (by omega) ?_; rintro _ _ ⟨rfl, rfl⟩; simp (maxDischargeDepth := 12) [wB, wI, k1, kI, kR, kL, k2, pget, pget_pset, pnl_pset, pnl_cons, pnl_nil, parg, ppush, pcat, zw_lit, zw_m1, zw_m2, zw_m3, zNC_eq, zrow, pup_app, gv_0_0, gv_1_4, tg_11_0, tg_1_4, sh_590, sh_0, sh_1])
  all_goals repeat' (with_reducible (first | (refine And.intro ?_ ?_) | intro _))
  all_goals (first | omega | ((simp (disch := omega) only [zw_lit]) <;> omega) | (simp only [zw]; omega))






set_option maxRecDepth 20000 in
set_option maxHeartbeats 4000000 in
theorem ca_X11_isHold {G : zG} {us : Nat} (h : Int) (H : PH)  : Ca G us 2 148 [(0, h)] H (fun r H' => H = H' ∧ r = some (0, if 0 ≤ h ∧ h ≤ 4 then 1 else 0)) := by
  refine ⟨_, _, _, _, _, _, vm_X11_isHold, by simp [pcat], ?_⟩
  refine tr_lab (D := 1) (t := 0) vb_X11_isHold_0 _ ve_X11_isHold_0 ?_
  simp (maxDischargeDepth := 12) [vb_X11_isHold_0, wB, wI, k1, kI, kR, kL, k2, pget, pget_pset, pnl_pset, pnl_cons, pnl_nil, parg, ppush, pcat, zw_lit, zw_m1, zw_m2, zw_m3, zNC_eq, zrow, pup_app, sh_590]
  repeat' (with_reducible (first | (refine And.intro ?_ ?_) | intro _))
  all_goals try (refine Ca_use (ca_X11_within _ _ _ _) (by omega) ?_; rintro _ _ ⟨rfl, rfl⟩; simp (maxDischargeDepth := 12) [wB, wI, k1, kI, kR, kL, k2, pget, pget_pset, pnl_pset, pnl_cons, pnl_nil, parg, ppush, pcat, zw_lit, zw_m1, zw_m2, zw_m3, zNC_eq, zrow, pup_app, sh_590])
  all_goals repeat' (with_reducible (first | (refine And.intro ?_ ?_) | intro _))
  all_goals omega




set_option maxRecDepth 20000 in
set_option maxHeartbeats 4000000 in
theorem ca_X8_sizeOf {G : zG} {us : Nat} (x : Int) (H : PH)  : Ca G us 1 76 [(1, x)] H (fun r H' => H = H' ∧ r = some (0, qli (qlushr x 48))) := by
  refine ⟨_, _, _, _, _, _, vm_X8_sizeOf, by simp [pcat], ?_⟩
  refine tr_lab (D := 0) (t := 0) vb_X8_sizeOf_0 _ ve_X8_sizeOf_0 ?_
  simp (maxDischargeDepth := 12) [vb_X8_sizeOf_0, wB, wI, k1, kI, kR, kL, k2, pget, pget_pset, pnl_pset, pnl_cons, pnl_nil, parg, ppush, pcat, zw_lit, zw_m1, zw_m2, zw_m3, zNC_eq, zrow, pup_app, sh_590]
  repeat' (with_reducible (first | (refine And.intro ?_ ?_) | intro _))


set_option maxRecDepth 20000 in
set_option maxHeartbeats 4000000 in
theorem ca_X8_signAt {G : zG} {us : Nat} (x i : Int) (H : PH) (h0 : 0 ≤ i) (h1 : i ≤ 7) : Ca G us 1 77 [(1, x), (0, i)] H (fun r H' => H = H' ∧ r = some (0, q2 (· &&& ·) (qli (qlushr x (6 * i))) 63)) := by
  refine ⟨_, _, _, _, _, _, vm_X8_signAt, by simp [pcat], ?_⟩
  refine tr_lab (D := 0) (t := 0) vb_X8_signAt_0 _ ve_X8_signAt_0 ?_
  simp (maxDischargeDepth := 12) [vb_X8_signAt_0, wB, wI, k1, kI, kR, kL, k2, pget, pget_pset, pnl_pset, pnl_cons, pnl_nil, parg, ppush, pcat, zw_lit, zw_m1, zw_m2, zw_m3, zNC_eq, zrow, pup_app, sh_590]
  repeat' (with_reducible (first | (refine And.intro ?_ ?_) | intro _))
  all_goals (simp (disch := omega) only [zw_lit, Int.mul_comm i 6]; try simp)


set_option maxRecDepth 20000 in
set_option maxHeartbeats 4000000 in
theorem ca_X4_join_42 {G : zG} {us : Nat} (b c : Int) (H : PH) (hb : zIn b) (hc : zIn c) : Ca G us 1 53 [(0, 42), (0, b), (0, c)] H (fun r H' => H = H' ∧ ∃ x, r = some (0, x) ∧ zIn x) := by
  refine ⟨_, _, _, _, _, _, vm_X4_join, by simp [pcat], ?_⟩
  refine tr_lab (D := 0) (t := 0) vb_X4_join_0 _ ve_X4_join_0 ?_
  simp (maxDischargeDepth := 12) [vb_X4_join_0, wB, wI, k1, kI, kR, kL, k2, pget, pget_pset, pnl_pset, pnl_cons, pnl_nil, parg, ppush, pcat, zw_lit, zw_m1, zw_m2, zw_m3, zNC_eq, zrow, pup_app, sh_590, zw_in, q2_in, ptl, Op.lookupswitch.offset, hb, hc]
  repeat' (with_reducible (first | (refine And.intro ?_ ?_) | intro _))
  all_goals try (refine tr_lab (D := 0) (t := 52) vb_X4_join_52 _ ve_X4_join_52 ?_; simp (maxDischargeDepth := 12) [vb_X4_join_52, wB, wI, k1, kI, kR, kL, k2, pget, pget_pset, pnl_pset, pnl_cons, pnl_nil, parg, ppush, pcat, zw_lit, zw_m1, zw_m2, zw_m3, zNC_eq, zrow, pup_app, sh_590, zw_in, q2_in, ptl, Op.lookupswitch.offset, hb, hc])
  all_goals repeat' (with_reducible (first | (refine And.intro ?_ ?_) | intro _))
  all_goals try (refine tr_lab (D := 0) (t := 56) vb_X4_join_56 _ ve_X4_join_56 ?_; simp (maxDischargeDepth := 12) [vb_X4_join_56, wB, wI, k1, kI, kR, kL, k2, pget, pget_pset, pnl_pset, pnl_cons, pnl_nil, parg, ppush, pcat, zw_lit, zw_m1, zw_m2, zw_m3, zNC_eq, zrow, pup_app, sh_590, zw_in, q2_in, ptl, Op.lookupswitch.offset, hb, hc])
  all_goals repeat' (with_reducible (first | (refine And.intro ?_ ?_) | intro _))
  all_goals try (refine tr_lab (D := 0) (t := 60) vb_X4_join_60 _ ve_X4_join_60 ?_; simp (maxDischargeDepth := 12) [vb_X4_join_60, wB, wI, k1, kI, kR, kL, k2, pget, pget_pset, pnl_pset, pnl_cons, pnl_nil, parg, ppush, pcat, zw_lit, zw_m1, zw_m2, zw_m3, zNC_eq, zrow, pup_app, sh_590, zw_in, q2_in, ptl, Op.lookupswitch.offset, hb, hc])
  all_goals repeat' (with_reducible (first | (refine And.intro ?_ ?_) | intro _))
  all_goals try (refine tr_lab (D := 0) (t := 64) vb_X4_join_64 _ ve_X4_join_64 ?_; simp (maxDischargeDepth := 12) [vb_X4_join_64, wB, wI, k1, kI, kR, kL, k2, pget, pget_pset, pnl_pset, pnl_cons, pnl_nil, parg, ppush, pcat, zw_lit, zw_m1, zw_m2, zw_m3, zNC_eq, zrow, pup_app, sh_590, zw_in, q2_in, ptl, Op.lookupswitch.offset, hb, hc])
  all_goals repeat' (with_reducible (first | (refine And.intro ?_ ?_) | intro _))
  all_goals try (refine tr_lab (D := 0) (t := 72) vb_X4_join_72 _ ve_X4_join_72 ?_; simp (maxDischargeDepth := 12) [vb_X4_join_72, wB, wI, k1, kI, kR, kL, k2, pget, pget_pset, pnl_pset, pnl_cons, pnl_nil, parg, ppush, pcat, zw_lit, zw_m1, zw_m2, zw_m3, zNC_eq, zrow, pup_app, sh_590, zw_in, q2_in, ptl, Op.lookupswitch.offset, hb, hc])
  all_goals repeat' (with_reducible (first | (refine And.intro ?_ ?_) | intro _))
  all_goals try (refine tr_lab (D := 0) (t := 75) vb_X4_join_75 _ ve_X4_join_75 ?_; simp (maxDischargeDepth := 12) [vb_X4_join_75, wB, wI, k1, kI, kR, kL, k2, pget, pget_pset, pnl_pset, pnl_cons, pnl_nil, parg, ppush, pcat, zw_lit, zw_m1, zw_m2, zw_m3, zNC_eq, zrow, pup_app, sh_590, zw_in, q2_in, ptl, Op.lookupswitch.offset, hb, hc])
  all_goals repeat' (with_reducible (first | (refine And.intro ?_ ?_) | intro _))
  all_goals try (refine tr_lab (D := 0) (t := 76) vb_X4_join_76 _ ve_X4_join_76 ?_; simp (maxDischargeDepth := 12) [vb_X4_join_76, wB, wI, k1, kI, kR, kL, k2, pget, pget_pset, pnl_pset, pnl_cons, pnl_nil, parg, ppush, pcat, zw_lit, zw_m1, zw_m2, zw_m3, zNC_eq, zrow, pup_app, sh_590, zw_in, q2_in, ptl, Op.lookupswitch.offset, hb, hc])
  all_goals repeat' (with_reducible (first | (refine And.intro ?_ ?_) | intro _))
  all_goals try (refine tr_lab (D := 0) (t := 82) vb_X4_join_82 _ ve_X4_join_82 ?_; simp (maxDischargeDepth := 12) [vb_X4_join_82, wB, wI, k1, kI, kR, kL, k2, pget, pget_pset, pnl_pset, pnl_cons, pnl_nil, parg, ppush, pcat, zw_lit, zw_m1, zw_m2, zw_m3, zNC_eq, zrow, pup_app, sh_590, zw_in, q2_in, ptl, Op.lookupswitch.offset, hb, hc])
  all_goals repeat' (with_reducible (first | (refine And.intro ?_ ?_) | intro _))
  all_goals (first | (split <;> assumption) | exact (q2_in _ _ _) | exact (zw_in _) | (constructor <;> omega) | (unfold zIn; omega) | trivial)
set_option maxRecDepth 20000 in
set_option maxHeartbeats 4000000 in
theorem ca_X4_join_43 {G : zG} {us : Nat} (b c : Int) (H : PH) (hb : zIn b) (hc : zIn c) : Ca G us 1 53 [(0, 43), (0, b), (0, c)] H (fun r H' => H = H' ∧ ∃ x, r = some (0, x) ∧ zIn x) := by
  refine ⟨_, _, _, _, _, _, vm_X4_join, by simp [pcat], ?_⟩
  refine tr_lab (D := 0) (t := 0) vb_X4_join_0 _ ve_X4_join_0 ?_
  simp (maxDischargeDepth := 12) [vb_X4_join_0, wB, wI, k1, kI, kR, kL, k2, pget, pget_pset, pnl_pset, pnl_cons, pnl_nil, parg, ppush, pcat, zw_lit, zw_m1, zw_m2, zw_m3, zNC_eq, zrow, pup_app, sh_590, zw_in, q2_in, ptl, Op.lookupswitch.offset, hb, hc]
  repeat' (with_reducible (first | (refine And.intro ?_ ?_) | intro _))
  all_goals try (refine tr_lab (D := 0) (t := 52) vb_X4_join_52 _ ve_X4_join_52 ?_; simp (maxDischargeDepth := 12) [vb_X4_join_52, wB, wI, k1, kI, kR, kL, k2, pget, pget_pset, pnl_pset, pnl_cons, pnl_nil, parg, ppush, pcat, zw_lit, zw_m1, zw_m2, zw_m3, zNC_eq, zrow, pup_app, sh_590, zw_in, q2_in, ptl, Op.lookupswitch.offset, hb, hc])
  all_goals repeat' (with_reducible (first | (refine And.intro ?_ ?_) | intro _))
  all_goals try (refine tr_lab (D := 0) (t := 56) vb_X4_join_56 _ ve_X4_join_56 ?_; simp (maxDischargeDepth := 12) [vb_X4_join_56, wB, wI, k1, kI, kR, kL, k2, pget, pget_pset, pnl_pset, pnl_cons, pnl_nil, parg, ppush, pcat, zw_lit, zw_m1, zw_m2, zw_m3, zNC_eq, zrow, pup_app, sh_590, zw_in, q2_in, ptl, Op.lookupswitch.offset, hb, hc])
  all_goals repeat' (with_reducible (first | (refine And.intro ?_ ?_) | intro _))
  all_goals try (refine tr_lab (D := 0) (t := 60) vb_X4_join_60 _ ve_X4_join_60 ?_; simp (maxDischargeDepth := 12) [vb_X4_join_60, wB, wI, k1, kI, kR, kL, k2, pget, pget_pset, pnl_pset, pnl_cons, pnl_nil, parg, ppush, pcat, zw_lit, zw_m1, zw_m2, zw_m3, zNC_eq, zrow, pup_app, sh_590, zw_in, q2_in, ptl, Op.lookupswitch.offset, hb, hc])
  all_goals repeat' (with_reducible (first | (refine And.intro ?_ ?_) | intro _))
  all_goals try (refine tr_lab (D := 0) (t := 64) vb_X4_join_64 _ ve_X4_join_64 ?_; simp (maxDischargeDepth := 12) [vb_X4_join_64, wB, wI, k1, kI, kR, kL, k2, pget, pget_pset, pnl_pset, pnl_cons, pnl_nil, parg, ppush, pcat, zw_lit, zw_m1, zw_m2, zw_m3, zNC_eq, zrow, pup_app, sh_590, zw_in, q2_in, ptl, Op.lookupswitch.offset, hb, hc])
  all_goals repeat' (with_reducible (first | (refine And.intro ?_ ?_) | intro _))
  all_goals try (refine tr_lab (D := 0) (t := 72) vb_X4_join_72 _ ve_X4_join_72 ?_; simp (maxDischargeDepth := 12) [vb_X4_join_72, wB, wI, k1, kI, kR, kL, k2, pget, pget_pset, pnl_pset, pnl_cons, pnl_nil, parg, ppush, pcat, zw_lit, zw_m1, zw_m2, zw_m3, zNC_eq, zrow, pup_app, sh_590, zw_in, q2_in, ptl, Op.lookupswitch.offset, hb, hc])
  all_goals repeat' (with_reducible (first | (refine And.intro ?_ ?_) | intro _))
  all_goals try (refine tr_lab (D := 0) (t := 75) vb_X4_join_75 _ ve_X4_join_75 ?_; simp (maxDischargeDepth := 12) [vb_X4_join_75, wB, wI, k1, kI, kR, kL, k2, pget, pget_pset, pnl_pset, pnl_cons, pnl_nil, parg, ppush, pcat, zw_lit, zw_m1, zw_m2, zw_m3, zNC_eq, zrow, pup_app, sh_590, zw_in, q2_in, ptl, Op.lookupswitch.offset, hb, hc])
  all_goals repeat' (with_reducible (first | (refine And.intro ?_ ?_) | intro _))
  all_goals try (refine tr_lab (D := 0) (t := 76) vb_X4_join_76 _ ve_X4_join_76 ?_; simp (maxDischargeDepth := 12) [vb_X4_join_76, wB, wI, k1, kI, kR, kL, k2, pget, pget_pset, pnl_pset, pnl_cons, pnl_nil, parg, ppush, pcat, zw_lit, zw_m1, zw_m2, zw_m3, zNC_eq, zrow, pup_app, sh_590, zw_in, q2_in, ptl, Op.lookupswitch.offset, hb, hc])
  all_goals repeat' (with_reducible (first | (refine And.intro ?_ ?_) | intro _))
  all_goals try (refine tr_lab (D := 0) (t := 82) vb_X4_join_82 _ ve_X4_join_82 ?_; simp (maxDischargeDepth := 12) [vb_X4_join_82, wB, wI, k1, kI, kR, kL, k2, pget, pget_pset, pnl_pset, pnl_cons, pnl_nil, parg, ppush, pcat, zw_lit, zw_m1, zw_m2, zw_m3, zNC_eq, zrow, pup_app, sh_590, zw_in, q2_in, ptl, Op.lookupswitch.offset, hb, hc])
  all_goals repeat' (with_reducible (first | (refine And.intro ?_ ?_) | intro _))
  all_goals (first | (split <;> assumption) | exact (q2_in _ _ _) | exact (zw_in _) | (constructor <;> omega) | (unfold zIn; omega) | trivial)
set_option maxRecDepth 20000 in
set_option maxHeartbeats 4000000 in
theorem ca_X4_join_45 {G : zG} {us : Nat} (b c : Int) (H : PH) (hb : zIn b) (hc : zIn c) : Ca G us 1 53 [(0, 45), (0, b), (0, c)] H (fun r H' => H = H' ∧ ∃ x, r = some (0, x) ∧ zIn x) := by
  refine ⟨_, _, _, _, _, _, vm_X4_join, by simp [pcat], ?_⟩
  refine tr_lab (D := 0) (t := 0) vb_X4_join_0 _ ve_X4_join_0 ?_
  simp (maxDischargeDepth := 12) [vb_X4_join_0, wB, wI, k1, kI, kR, kL, k2, pget, pget_pset, pnl_pset, pnl_cons, pnl_nil, parg, ppush, pcat, zw_lit, zw_m1, zw_m2, zw_m3, zNC_eq, zrow, pup_app, sh_590, zw_in, q2_in, ptl, Op.lookupswitch.offset, hb, hc]
  repeat' (with_reducible (first | (refine And.intro ?_ ?_) | intro _))
  all_goals try (refine tr_lab (D := 0) (t := 52) vb_X4_join_52 _ ve_X4_join_52 ?_; simp (maxDischargeDepth := 12) [vb_X4_join_52, wB, wI, k1, kI, kR, kL, k2, pget, pget_pset, pnl_pset, pnl_cons, pnl_nil, parg, ppush, pcat, zw_lit, zw_m1, zw_m2, zw_m3, zNC_eq, zrow, pup_app, sh_590, zw_in, q2_in, ptl, Op.lookupswitch.offset, hb, hc])
  all_goals repeat' (with_reducible (first | (refine And.intro ?_ ?_) | intro _))
  all_goals try (refine tr_lab (D := 0) (t := 56) vb_X4_join_56 _ ve_X4_join_56 ?_; simp (maxDischargeDepth := 12) [vb_X4_join_56, wB, wI, k1, kI, kR, kL, k2, pget, pget_pset, pnl_pset, pnl_cons, pnl_nil, parg, ppush, pcat, zw_lit, zw_m1, zw_m2, zw_m3, zNC_eq, zrow, pup_app, sh_590, zw_in, q2_in, ptl, Op.lookupswitch.offset, hb, hc])
  all_goals repeat' (with_reducible (first | (refine And.intro ?_ ?_) | intro _))
  all_goals try (refine tr_lab (D := 0) (t := 60) vb_X4_join_60 _ ve_X4_join_60 ?_; simp (maxDischargeDepth := 12) [vb_X4_join_60, wB, wI, k1, kI, kR, kL, k2, pget, pget_pset, pnl_pset, pnl_cons, pnl_nil, parg, ppush, pcat, zw_lit, zw_m1, zw_m2, zw_m3, zNC_eq, zrow, pup_app, sh_590, zw_in, q2_in, ptl, Op.lookupswitch.offset, hb, hc])
  all_goals repeat' (with_reducible (first | (refine And.intro ?_ ?_) | intro _))
  all_goals try (refine tr_lab (D := 0) (t := 64) vb_X4_join_64 _ ve_X4_join_64 ?_; simp (maxDischargeDepth := 12) [vb_X4_join_64, wB, wI, k1, kI, kR, kL, k2, pget, pget_pset, pnl_pset, pnl_cons, pnl_nil, parg, ppush, pcat, zw_lit, zw_m1, zw_m2, zw_m3, zNC_eq, zrow, pup_app, sh_590, zw_in, q2_in, ptl, Op.lookupswitch.offset, hb, hc])
  all_goals repeat' (with_reducible (first | (refine And.intro ?_ ?_) | intro _))
  all_goals try (refine tr_lab (D := 0) (t := 72) vb_X4_join_72 _ ve_X4_join_72 ?_; simp (maxDischargeDepth := 12) [vb_X4_join_72, wB, wI, k1, kI, kR, kL, k2, pget, pget_pset, pnl_pset, pnl_cons, pnl_nil, parg, ppush, pcat, zw_lit, zw_m1, zw_m2, zw_m3, zNC_eq, zrow, pup_app, sh_590, zw_in, q2_in, ptl, Op.lookupswitch.offset, hb, hc])
  all_goals repeat' (with_reducible (first | (refine And.intro ?_ ?_) | intro _))
  all_goals try (refine tr_lab (D := 0) (t := 75) vb_X4_join_75 _ ve_X4_join_75 ?_; simp (maxDischargeDepth := 12) [vb_X4_join_75, wB, wI, k1, kI, kR, kL, k2, pget, pget_pset, pnl_pset, pnl_cons, pnl_nil, parg, ppush, pcat, zw_lit, zw_m1, zw_m2, zw_m3, zNC_eq, zrow, pup_app, sh_590, zw_in, q2_in, ptl, Op.lookupswitch.offset, hb, hc])
  all_goals repeat' (with_reducible (first | (refine And.intro ?_ ?_) | intro _))
  all_goals try (refine tr_lab (D := 0) (t := 76) vb_X4_join_76 _ ve_X4_join_76 ?_; simp (maxDischargeDepth := 12) [vb_X4_join_76, wB, wI, k1, kI, kR, kL, k2, pget, pget_pset, pnl_pset, pnl_cons, pnl_nil, parg, ppush, pcat, zw_lit, zw_m1, zw_m2, zw_m3, zNC_eq, zrow, pup_app, sh_590, zw_in, q2_in, ptl, Op.lookupswitch.offset, hb, hc])
  all_goals repeat' (with_reducible (first | (refine And.intro ?_ ?_) | intro _))
  all_goals try (refine tr_lab (D := 0) (t := 82) vb_X4_join_82 _ ve_X4_join_82 ?_; simp (maxDischargeDepth := 12) [vb_X4_join_82, wB, wI, k1, kI, kR, kL, k2, pget, pget_pset, pnl_pset, pnl_cons, pnl_nil, parg, ppush, pcat, zw_lit, zw_m1, zw_m2, zw_m3, zNC_eq, zrow, pup_app, sh_590, zw_in, q2_in, ptl, Op.lookupswitch.offset, hb, hc])
  all_goals repeat' (with_reducible (first | (refine And.intro ?_ ?_) | intro _))
  all_goals (first | (split <;> assumption) | exact (q2_in _ _ _) | exact (zw_in _) | (constructor <;> omega) | (unfold zIn; omega) | trivial)
set_option maxRecDepth 20000 in
set_option maxHeartbeats 4000000 in
theorem ca_X4_join_47 {G : zG} {us : Nat} (b c : Int) (H : PH) (hb : zIn b) (hc : zIn c) : Ca G us 1 53 [(0, 47), (0, b), (0, c)] H (fun r H' => H = H' ∧ ∃ x, r = some (0, x) ∧ zIn x) := by
  refine ⟨_, _, _, _, _, _, vm_X4_join, by simp [pcat], ?_⟩
  refine tr_lab (D := 0) (t := 0) vb_X4_join_0 _ ve_X4_join_0 ?_
  simp (maxDischargeDepth := 12) [vb_X4_join_0, wB, wI, k1, kI, kR, kL, k2, pget, pget_pset, pnl_pset, pnl_cons, pnl_nil, parg, ppush, pcat, zw_lit, zw_m1, zw_m2, zw_m3, zNC_eq, zrow, pup_app, sh_590, zw_in, q2_in, ptl, Op.lookupswitch.offset, hb, hc]
  repeat' (with_reducible (first | (refine And.intro ?_ ?_) | intro _))
  all_goals try (refine tr_lab (D := 0) (t := 52) vb_X4_join_52 _ ve_X4_join_52 ?_; simp (maxDischargeDepth := 12) [vb_X4_join_52, wB, wI, k1, kI, kR, kL, k2, pget, pget_pset, pnl_pset, pnl_cons, pnl_nil, parg, ppush, pcat, zw_lit, zw_m1, zw_m2, zw_m3, zNC_eq, zrow, pup_app, sh_590, zw_in, q2_in, ptl, Op.lookupswitch.offset, hb, hc])
  all_goals repeat' (with_reducible (first | (refine And.intro ?_ ?_) | intro _))
  all_goals try (refine tr_lab (D := 0) (t := 56) vb_X4_join_56 _ ve_X4_join_56 ?_; simp (maxDischargeDepth := 12) [vb_X4_join_56, wB, wI, k1, kI, kR, kL, k2, pget, pget_pset, pnl_pset, pnl_cons, pnl_nil, parg, ppush, pcat, zw_lit, zw_m1, zw_m2, zw_m3, zNC_eq, zrow, pup_app, sh_590, zw_in, q2_in, ptl, Op.lookupswitch.offset, hb, hc])
  all_goals repeat' (with_reducible (first | (refine And.intro ?_ ?_) | intro _))
  all_goals try (refine tr_lab (D := 0) (t := 60) vb_X4_join_60 _ ve_X4_join_60 ?_; simp (maxDischargeDepth := 12) [vb_X4_join_60, wB, wI, k1, kI, kR, kL, k2, pget, pget_pset, pnl_pset, pnl_cons, pnl_nil, parg, ppush, pcat, zw_lit, zw_m1, zw_m2, zw_m3, zNC_eq, zrow, pup_app, sh_590, zw_in, q2_in, ptl, Op.lookupswitch.offset, hb, hc])
  all_goals repeat' (with_reducible (first | (refine And.intro ?_ ?_) | intro _))
  all_goals try (refine tr_lab (D := 0) (t := 64) vb_X4_join_64 _ ve_X4_join_64 ?_; simp (maxDischargeDepth := 12) [vb_X4_join_64, wB, wI, k1, kI, kR, kL, k2, pget, pget_pset, pnl_pset, pnl_cons, pnl_nil, parg, ppush, pcat, zw_lit, zw_m1, zw_m2, zw_m3, zNC_eq, zrow, pup_app, sh_590, zw_in, q2_in, ptl, Op.lookupswitch.offset, hb, hc])
  all_goals repeat' (with_reducible (first | (refine And.intro ?_ ?_) | intro _))
  all_goals try (refine tr_lab (D := 0) (t := 72) vb_X4_join_72 _ ve_X4_join_72 ?_; simp (maxDischargeDepth := 12) [vb_X4_join_72, wB, wI, k1, kI, kR, kL, k2, pget, pget_pset, pnl_pset, pnl_cons, pnl_nil, parg, ppush, pcat, zw_lit, zw_m1, zw_m2, zw_m3, zNC_eq, zrow, pup_app, sh_590, zw_in, q2_in, ptl, Op.lookupswitch.offset, hb, hc])
  all_goals repeat' (with_reducible (first | (refine And.intro ?_ ?_) | intro _))
  all_goals try (refine tr_lab (D := 0) (t := 75) vb_X4_join_75 _ ve_X4_join_75 ?_; simp (maxDischargeDepth := 12) [vb_X4_join_75, wB, wI, k1, kI, kR, kL, k2, pget, pget_pset, pnl_pset, pnl_cons, pnl_nil, parg, ppush, pcat, zw_lit, zw_m1, zw_m2, zw_m3, zNC_eq, zrow, pup_app, sh_590, zw_in, q2_in, ptl, Op.lookupswitch.offset, hb, hc])
  all_goals repeat' (with_reducible (first | (refine And.intro ?_ ?_) | intro _))
  all_goals try (refine tr_lab (D := 0) (t := 76) vb_X4_join_76 _ ve_X4_join_76 ?_; simp (maxDischargeDepth := 12) [vb_X4_join_76, wB, wI, k1, kI, kR, kL, k2, pget, pget_pset, pnl_pset, pnl_cons, pnl_nil, parg, ppush, pcat, zw_lit, zw_m1, zw_m2, zw_m3, zNC_eq, zrow, pup_app, sh_590, zw_in, q2_in, ptl, Op.lookupswitch.offset, hb, hc])
  all_goals repeat' (with_reducible (first | (refine And.intro ?_ ?_) | intro _))
  all_goals try (refine tr_lab (D := 0) (t := 82) vb_X4_join_82 _ ve_X4_join_82 ?_; simp (maxDischargeDepth := 12) [vb_X4_join_82, wB, wI, k1, kI, kR, kL, k2, pget, pget_pset, pnl_pset, pnl_cons, pnl_nil, parg, ppush, pcat, zw_lit, zw_m1, zw_m2, zw_m3, zNC_eq, zrow, pup_app, sh_590, zw_in, q2_in, ptl, Op.lookupswitch.offset, hb, hc])
  all_goals repeat' (with_reducible (first | (refine And.intro ?_ ?_) | intro _))
  all_goals (first | (split <;> assumption) | exact (q2_in _ _ _) | exact (zw_in _) | (constructor <;> omega) | (unfold zIn; omega) | trivial)
set_option maxRecDepth 20000 in
set_option maxHeartbeats 4000000 in
theorem ca_X4_join_60 {G : zG} {us : Nat} (b c : Int) (H : PH) (hb : zIn b) (hc : zIn c) : Ca G us 1 53 [(0, 60), (0, b), (0, c)] H (fun r H' => H = H' ∧ ∃ x, r = some (0, x) ∧ zIn x) := by
  refine ⟨_, _, _, _, _, _, vm_X4_join, by simp [pcat], ?_⟩
  refine tr_lab (D := 0) (t := 0) vb_X4_join_0 _ ve_X4_join_0 ?_
  simp (maxDischargeDepth := 12) [vb_X4_join_0, wB, wI, k1, kI, kR, kL, k2, pget, pget_pset, pnl_pset, pnl_cons, pnl_nil, parg, ppush, pcat, zw_lit, zw_m1, zw_m2, zw_m3, zNC_eq, zrow, pup_app, sh_590, zw_in, q2_in, ptl, Op.lookupswitch.offset, hb, hc]
  repeat' (with_reducible (first | (refine And.intro ?_ ?_) | intro _))
  all_goals try (refine tr_lab (D := 0) (t := 52) vb_X4_join_52 _ ve_X4_join_52 ?_; simp (maxDischargeDepth := 12) [vb_X4_join_52, wB, wI, k1, kI, kR, kL, k2, pget, pget_pset, pnl_pset, pnl_cons, pnl_nil, parg, ppush, pcat, zw_lit, zw_m1, zw_m2, zw_m3, zNC_eq, zrow, pup_app, sh_590, zw_in, q2_in, ptl, Op.lookupswitch.offset, hb, hc])
  all_goals repeat' (with_reducible (first | (refine And.intro ?_ ?_) | intro _))
  all_goals try (refine tr_lab (D := 0) (t := 56) vb_X4_join_56 _ ve_X4_join_56 ?_; simp (maxDischargeDepth := 12) [vb_X4_join_56, wB, wI, k1, kI, kR, kL, k2, pget, pget_pset, pnl_pset, pnl_cons, pnl_nil, parg, ppush, pcat, zw_lit, zw_m1, zw_m2, zw_m3, zNC_eq, zrow, pup_app, sh_590, zw_in, q2_in, ptl, Op.lookupswitch.offset, hb, hc])
  all_goals repeat' (with_reducible (first | (refine And.intro ?_ ?_) | intro _))
  all_goals try (refine tr_lab (D := 0) (t := 60) vb_X4_join_60 _ ve_X4_join_60 ?_; simp (maxDischargeDepth := 12) [vb_X4_join_60, wB, wI, k1, kI, kR, kL, k2, pget, pget_pset, pnl_pset, pnl_cons, pnl_nil, parg, ppush, pcat, zw_lit, zw_m1, zw_m2, zw_m3, zNC_eq, zrow, pup_app, sh_590, zw_in, q2_in, ptl, Op.lookupswitch.offset, hb, hc])
  all_goals repeat' (with_reducible (first | (refine And.intro ?_ ?_) | intro _))
  all_goals try (refine tr_lab (D := 0) (t := 64) vb_X4_join_64 _ ve_X4_join_64 ?_; simp (maxDischargeDepth := 12) [vb_X4_join_64, wB, wI, k1, kI, kR, kL, k2, pget, pget_pset, pnl_pset, pnl_cons, pnl_nil, parg, ppush, pcat, zw_lit, zw_m1, zw_m2, zw_m3, zNC_eq, zrow, pup_app, sh_590, zw_in, q2_in, ptl, Op.lookupswitch.offset, hb, hc])
  all_goals repeat' (with_reducible (first | (refine And.intro ?_ ?_) | intro _))
  all_goals try (refine tr_lab (D := 0) (t := 72) vb_X4_join_72 _ ve_X4_join_72 ?_; simp (maxDischargeDepth := 12) [vb_X4_join_72, wB, wI, k1, kI, kR, kL, k2, pget, pget_pset, pnl_pset, pnl_cons, pnl_nil, parg, ppush, pcat, zw_lit, zw_m1, zw_m2, zw_m3, zNC_eq, zrow, pup_app, sh_590, zw_in, q2_in, ptl, Op.lookupswitch.offset, hb, hc])
  all_goals repeat' (with_reducible (first | (refine And.intro ?_ ?_) | intro _))
  all_goals try (refine tr_lab (D := 0) (t := 75) vb_X4_join_75 _ ve_X4_join_75 ?_; simp (maxDischargeDepth := 12) [vb_X4_join_75, wB, wI, k1, kI, kR, kL, k2, pget, pget_pset, pnl_pset, pnl_cons, pnl_nil, parg, ppush, pcat, zw_lit, zw_m1, zw_m2, zw_m3, zNC_eq, zrow, pup_app, sh_590, zw_in, q2_in, ptl, Op.lookupswitch.offset, hb, hc])
  all_goals repeat' (with_reducible (first | (refine And.intro ?_ ?_) | intro _))
  all_goals try (refine tr_lab (D := 0) (t := 76) vb_X4_join_76 _ ve_X4_join_76 ?_; simp (maxDischargeDepth := 12) [vb_X4_join_76, wB, wI, k1, kI, kR, kL, k2, pget, pget_pset, pnl_pset, pnl_cons, pnl_nil, parg, ppush, pcat, zw_lit, zw_m1, zw_m2, zw_m3, zNC_eq, zrow, pup_app, sh_590, zw_in, q2_in, ptl, Op.lookupswitch.offset, hb, hc])
  all_goals repeat' (with_reducible (first | (refine And.intro ?_ ?_) | intro _))
  all_goals try (refine tr_lab (D := 0) (t := 82) vb_X4_join_82 _ ve_X4_join_82 ?_; simp (maxDischargeDepth := 12) [vb_X4_join_82, wB, wI, k1, kI, kR, kL, k2, pget, pget_pset, pnl_pset, pnl_cons, pnl_nil, parg, ppush, pcat, zw_lit, zw_m1, zw_m2, zw_m3, zNC_eq, zrow, pup_app, sh_590, zw_in, q2_in, ptl, Op.lookupswitch.offset, hb, hc])
  all_goals repeat' (with_reducible (first | (refine And.intro ?_ ?_) | intro _))
  all_goals (first | (split <;> assumption) | exact (q2_in _ _ _) | exact (zw_in _) | (constructor <;> omega) | (unfold zIn; omega) | trivial)
set_option maxRecDepth 20000 in
set_option maxHeartbeats 4000000 in
theorem ca_X4_join_d {G : zG} {us : Nat} (a b c : Int) (H : PH) (hb : zIn b) (hc : zIn c) (h42 : ¬ a = 42) (h43 : ¬ a = 43) (h45 : ¬ a = 45) (h47 : ¬ a = 47) (h60 : ¬ a = 60) : Ca G us 1 53 [(0, a), (0, b), (0, c)] H (fun r H' => H = H' ∧ ∃ x, r = some (0, x) ∧ zIn x) := by
  have g42 : ¬ (42 : Int) = a := fun q => h42 q.symm
  have g43 : ¬ (43 : Int) = a := fun q => h43 q.symm
  have g45 : ¬ (45 : Int) = a := fun q => h45 q.symm
  have g47 : ¬ (47 : Int) = a := fun q => h47 q.symm
  have g60 : ¬ (60 : Int) = a := fun q => h60 q.symm
  refine ⟨_, _, _, _, _, _, vm_X4_join, by simp [pcat], ?_⟩
  refine tr_lab (D := 0) (t := 0) vb_X4_join_0 _ ve_X4_join_0 ?_
  simp (maxDischargeDepth := 12) [vb_X4_join_0, wB, wI, k1, kI, kR, kL, k2, pget, pget_pset, pnl_pset, pnl_cons, pnl_nil, parg, ppush, pcat, zw_lit, zw_m1, zw_m2, zw_m3, zNC_eq, zrow, pup_app, sh_590, zw_in, q2_in, ptl, Op.lookupswitch.offset, hb, hc, h42, h43, h45, h47, h60, g42, g43, g45, g47, g60]
  repeat' (with_reducible (first | (refine And.intro ?_ ?_) | intro _))
  all_goals try (refine tr_lab (D := 0) (t := 52) vb_X4_join_52 _ ve_X4_join_52 ?_; simp (maxDischargeDepth := 12) [vb_X4_join_52, wB, wI, k1, kI, kR, kL, k2, pget, pget_pset, pnl_pset, pnl_cons, pnl_nil, parg, ppush, pcat, zw_lit, zw_m1, zw_m2, zw_m3, zNC_eq, zrow, pup_app, sh_590, zw_in, q2_in, ptl, Op.lookupswitch.offset, hb, hc, h42, h43, h45, h47, h60, g42, g43, g45, g47, g60])
  all_goals repeat' (with_reducible (first | (refine And.intro ?_ ?_) | intro _))
  all_goals try (refine tr_lab (D := 0) (t := 56) vb_X4_join_56 _ ve_X4_join_56 ?_; simp (maxDischargeDepth := 12) [vb_X4_join_56, wB, wI, k1, kI, kR, kL, k2, pget, pget_pset, pnl_pset, pnl_cons, pnl_nil, parg, ppush, pcat, zw_lit, zw_m1, zw_m2, zw_m3, zNC_eq, zrow, pup_app, sh_590, zw_in, q2_in, ptl, Op.lookupswitch.offset, hb, hc, h42, h43, h45, h47, h60, g42, g43, g45, g47, g60])
  all_goals repeat' (with_reducible (first | (refine And.intro ?_ ?_) | intro _))
  all_goals try (refine tr_lab (D := 0) (t := 60) vb_X4_join_60 _ ve_X4_join_60 ?_; simp (maxDischargeDepth := 12) [vb_X4_join_60, wB, wI, k1, kI, kR, kL, k2, pget, pget_pset, pnl_pset, pnl_cons, pnl_nil, parg, ppush, pcat, zw_lit, zw_m1, zw_m2, zw_m3, zNC_eq, zrow, pup_app, sh_590, zw_in, q2_in, ptl, Op.lookupswitch.offset, hb, hc, h42, h43, h45, h47, h60, g42, g43, g45, g47, g60])
  all_goals repeat' (with_reducible (first | (refine And.intro ?_ ?_) | intro _))
  all_goals try (refine tr_lab (D := 0) (t := 64) vb_X4_join_64 _ ve_X4_join_64 ?_; simp (maxDischargeDepth := 12) [vb_X4_join_64, wB, wI, k1, kI, kR, kL, k2, pget, pget_pset, pnl_pset, pnl_cons, pnl_nil, parg, ppush, pcat, zw_lit, zw_m1, zw_m2, zw_m3, zNC_eq, zrow, pup_app, sh_590, zw_in, q2_in, ptl, Op.lookupswitch.offset, hb, hc, h42, h43, h45, h47, h60, g42, g43, g45, g47, g60])
  all_goals repeat' (with_reducible (first | (refine And.intro ?_ ?_) | intro _))
  all_goals try (refine tr_lab (D := 0) (t := 72) vb_X4_join_72 _ ve_X4_join_72 ?_; simp (maxDischargeDepth := 12) [vb_X4_join_72, wB, wI, k1, kI, kR, kL, k2, pget, pget_pset, pnl_pset, pnl_cons, pnl_nil, parg, ppush, pcat, zw_lit, zw_m1, zw_m2, zw_m3, zNC_eq, zrow, pup_app, sh_590, zw_in, q2_in, ptl, Op.lookupswitch.offset, hb, hc, h42, h43, h45, h47, h60, g42, g43, g45, g47, g60])
  all_goals repeat' (with_reducible (first | (refine And.intro ?_ ?_) | intro _))
  all_goals try (refine tr_lab (D := 0) (t := 75) vb_X4_join_75 _ ve_X4_join_75 ?_; simp (maxDischargeDepth := 12) [vb_X4_join_75, wB, wI, k1, kI, kR, kL, k2, pget, pget_pset, pnl_pset, pnl_cons, pnl_nil, parg, ppush, pcat, zw_lit, zw_m1, zw_m2, zw_m3, zNC_eq, zrow, pup_app, sh_590, zw_in, q2_in, ptl, Op.lookupswitch.offset, hb, hc, h42, h43, h45, h47, h60, g42, g43, g45, g47, g60])
  all_goals repeat' (with_reducible (first | (refine And.intro ?_ ?_) | intro _))
  all_goals try (refine tr_lab (D := 0) (t := 76) vb_X4_join_76 _ ve_X4_join_76 ?_; simp (maxDischargeDepth := 12) [vb_X4_join_76, wB, wI, k1, kI, kR, kL, k2, pget, pget_pset, pnl_pset, pnl_cons, pnl_nil, parg, ppush, pcat, zw_lit, zw_m1, zw_m2, zw_m3, zNC_eq, zrow, pup_app, sh_590, zw_in, q2_in, ptl, Op.lookupswitch.offset, hb, hc, h42, h43, h45, h47, h60, g42, g43, g45, g47, g60])
  all_goals repeat' (with_reducible (first | (refine And.intro ?_ ?_) | intro _))
  all_goals try (refine tr_lab (D := 0) (t := 82) vb_X4_join_82 _ ve_X4_join_82 ?_; simp (maxDischargeDepth := 12) [vb_X4_join_82, wB, wI, k1, kI, kR, kL, k2, pget, pget_pset, pnl_pset, pnl_cons, pnl_nil, parg, ppush, pcat, zw_lit, zw_m1, zw_m2, zw_m3, zNC_eq, zrow, pup_app, sh_590, zw_in, q2_in, ptl, Op.lookupswitch.offset, hb, hc, h42, h43, h45, h47, h60, g42, g43, g45, g47, g60])
  all_goals repeat' (with_reducible (first | (refine And.intro ?_ ?_) | intro _))
  all_goals (first | (split <;> assumption) | exact (q2_in _ _ _) | exact (zw_in _) | (constructor <;> omega) | (unfold zIn; omega) | trivial)
theorem ca_X4_join {G : zG} {us : Nat} (a b c : Int) (H : PH) (hb : zIn b) (hc : zIn c) : Ca G us 1 53 [(0, a), (0, b), (0, c)] H (fun r H' => H = H' ∧ ∃ x, r = some (0, x) ∧ zIn x) := by
  by_cases h42 : a = 42
  · subst h42
    exact ca_X4_join_42 b c H hb hc
  by_cases h43 : a = 43
  · subst h43
    exact ca_X4_join_43 b c H hb hc
  by_cases h45 : a = 45
  · subst h45
    exact ca_X4_join_45 b c H hb hc
  by_cases h47 : a = 47
  · subst h47
    exact ca_X4_join_47 b c H hb hc
  by_cases h60 : a = 60
  · subst h60
    exact ca_X4_join_60 b c H hb hc
  exact ca_X4_join_d a b c H hb hc h42 h43 h45 h47 h60


set_option maxRecDepth 20000 in
set_option maxHeartbeats 4000000 in
theorem ca_X12_joined_42 {G : zG} {us : Nat} (b c : Int) (H : PH) (hb : zIn b) (hc : zIn c) : Ca G us 1 190 [(0, 42), (0, b), (0, c)] H (fun r H' => H = H' ∧ ∃ x, r = some (0, x) ∧ zIn x) := by
  refine ⟨_, _, _, _, _, _, vm_X12_joined, by simp [pcat], ?_⟩
  refine tr_lab (D := 0) (t := 0) vb_X12_joined_0 _ ve_X12_joined_0 ?_
  simp (maxDischargeDepth := 12) [vb_X12_joined_0, wB, wI, k1, kI, kR, kL, k2, pget, pget_pset, pnl_pset, pnl_cons, pnl_nil, parg, ppush, pcat, zw_lit, zw_m1, zw_m2, zw_m3, zNC_eq, zrow, pup_app, sh_590, zw_in, q2_in, ptl, Op.lookupswitch.offset, hb, hc]
  repeat' (with_reducible (first | (refine And.intro ?_ ?_) | intro _))
  all_goals try (refine tr_lab (D := 0) (t := 52) vb_X12_joined_52 _ ve_X12_joined_52 ?_; simp (maxDischargeDepth := 12) [vb_X12_joined_52, wB, wI, k1, kI, kR, kL, k2, pget, pget_pset, pnl_pset, pnl_cons, pnl_nil, parg, ppush, pcat, zw_lit, zw_m1, zw_m2, zw_m3, zNC_eq, zrow, pup_app, sh_590, zw_in, q2_in, ptl, Op.lookupswitch.offset, hb, hc])
  all_goals repeat' (with_reducible (first | (refine And.intro ?_ ?_) | intro _))
  all_goals try (refine tr_lab (D := 0) (t := 56) vb_X12_joined_56 _ ve_X12_joined_56 ?_; simp (maxDischargeDepth := 12) [vb_X12_joined_56, wB, wI, k1, kI, kR, kL, k2, pget, pget_pset, pnl_pset, pnl_cons, pnl_nil, parg, ppush, pcat, zw_lit, zw_m1, zw_m2, zw_m3, zNC_eq, zrow, pup_app, sh_590, zw_in, q2_in, ptl, Op.lookupswitch.offset, hb, hc])
  all_goals repeat' (with_reducible (first | (refine And.intro ?_ ?_) | intro _))
  all_goals try (refine tr_lab (D := 0) (t := 60) vb_X12_joined_60 _ ve_X12_joined_60 ?_; simp (maxDischargeDepth := 12) [vb_X12_joined_60, wB, wI, k1, kI, kR, kL, k2, pget, pget_pset, pnl_pset, pnl_cons, pnl_nil, parg, ppush, pcat, zw_lit, zw_m1, zw_m2, zw_m3, zNC_eq, zrow, pup_app, sh_590, zw_in, q2_in, ptl, Op.lookupswitch.offset, hb, hc])
  all_goals repeat' (with_reducible (first | (refine And.intro ?_ ?_) | intro _))
  all_goals try (refine tr_lab (D := 0) (t := 64) vb_X12_joined_64 _ ve_X12_joined_64 ?_; simp (maxDischargeDepth := 12) [vb_X12_joined_64, wB, wI, k1, kI, kR, kL, k2, pget, pget_pset, pnl_pset, pnl_cons, pnl_nil, parg, ppush, pcat, zw_lit, zw_m1, zw_m2, zw_m3, zNC_eq, zrow, pup_app, sh_590, zw_in, q2_in, ptl, Op.lookupswitch.offset, hb, hc])
  all_goals repeat' (with_reducible (first | (refine And.intro ?_ ?_) | intro _))
  all_goals try (refine tr_lab (D := 0) (t := 72) vb_X12_joined_72 _ ve_X12_joined_72 ?_; simp (maxDischargeDepth := 12) [vb_X12_joined_72, wB, wI, k1, kI, kR, kL, k2, pget, pget_pset, pnl_pset, pnl_cons, pnl_nil, parg, ppush, pcat, zw_lit, zw_m1, zw_m2, zw_m3, zNC_eq, zrow, pup_app, sh_590, zw_in, q2_in, ptl, Op.lookupswitch.offset, hb, hc])
  all_goals repeat' (with_reducible (first | (refine And.intro ?_ ?_) | intro _))
  all_goals try (refine tr_lab (D := 0) (t := 75) vb_X12_joined_75 _ ve_X12_joined_75 ?_; simp (maxDischargeDepth := 12) [vb_X12_joined_75, wB, wI, k1, kI, kR, kL, k2, pget, pget_pset, pnl_pset, pnl_cons, pnl_nil, parg, ppush, pcat, zw_lit, zw_m1, zw_m2, zw_m3, zNC_eq, zrow, pup_app, sh_590, zw_in, q2_in, ptl, Op.lookupswitch.offset, hb, hc])
  all_goals repeat' (with_reducible (first | (refine And.intro ?_ ?_) | intro _))
  all_goals try (refine tr_lab (D := 0) (t := 76) vb_X12_joined_76 _ ve_X12_joined_76 ?_; simp (maxDischargeDepth := 12) [vb_X12_joined_76, wB, wI, k1, kI, kR, kL, k2, pget, pget_pset, pnl_pset, pnl_cons, pnl_nil, parg, ppush, pcat, zw_lit, zw_m1, zw_m2, zw_m3, zNC_eq, zrow, pup_app, sh_590, zw_in, q2_in, ptl, Op.lookupswitch.offset, hb, hc])
  all_goals repeat' (with_reducible (first | (refine And.intro ?_ ?_) | intro _))
  all_goals try (refine tr_lab (D := 0) (t := 85) vb_X12_joined_85 _ ve_X12_joined_85 ?_; simp (maxDischargeDepth := 12) [vb_X12_joined_85, wB, wI, k1, kI, kR, kL, k2, pget, pget_pset, pnl_pset, pnl_cons, pnl_nil, parg, ppush, pcat, zw_lit, zw_m1, zw_m2, zw_m3, zNC_eq, zrow, pup_app, sh_590, zw_in, q2_in, ptl, Op.lookupswitch.offset, hb, hc])
  all_goals repeat' (with_reducible (first | (refine And.intro ?_ ?_) | intro _))
  all_goals try (refine tr_lab (D := 0) (t := 86) vb_X12_joined_86 _ ve_X12_joined_86 ?_; simp (maxDischargeDepth := 12) [vb_X12_joined_86, wB, wI, k1, kI, kR, kL, k2, pget, pget_pset, pnl_pset, pnl_cons, pnl_nil, parg, ppush, pcat, zw_lit, zw_m1, zw_m2, zw_m3, zNC_eq, zrow, pup_app, sh_590, zw_in, q2_in, ptl, Op.lookupswitch.offset, hb, hc])
  all_goals repeat' (with_reducible (first | (refine And.intro ?_ ?_) | intro _))
  all_goals try (refine tr_lab (D := 0) (t := 87) vb_X12_joined_87 _ ve_X12_joined_87 ?_; simp (maxDischargeDepth := 12) [vb_X12_joined_87, wB, wI, k1, kI, kR, kL, k2, pget, pget_pset, pnl_pset, pnl_cons, pnl_nil, parg, ppush, pcat, zw_lit, zw_m1, zw_m2, zw_m3, zNC_eq, zrow, pup_app, sh_590, zw_in, q2_in, ptl, Op.lookupswitch.offset, hb, hc])
  all_goals repeat' (with_reducible (first | (refine And.intro ?_ ?_) | intro _))
  all_goals try (refine tr_lab (D := 0) (t := 96) vb_X12_joined_96 _ ve_X12_joined_96 ?_; simp (maxDischargeDepth := 12) [vb_X12_joined_96, wB, wI, k1, kI, kR, kL, k2, pget, pget_pset, pnl_pset, pnl_cons, pnl_nil, parg, ppush, pcat, zw_lit, zw_m1, zw_m2, zw_m3, zNC_eq, zrow, pup_app, sh_590, zw_in, q2_in, ptl, Op.lookupswitch.offset, hb, hc])
  all_goals repeat' (with_reducible (first | (refine And.intro ?_ ?_) | intro _))
  all_goals try (refine tr_lab (D := 0) (t := 97) vb_X12_joined_97 _ ve_X12_joined_97 ?_; simp (maxDischargeDepth := 12) [vb_X12_joined_97, wB, wI, k1, kI, kR, kL, k2, pget, pget_pset, pnl_pset, pnl_cons, pnl_nil, parg, ppush, pcat, zw_lit, zw_m1, zw_m2, zw_m3, zNC_eq, zrow, pup_app, sh_590, zw_in, q2_in, ptl, Op.lookupswitch.offset, hb, hc])
  all_goals repeat' (with_reducible (first | (refine And.intro ?_ ?_) | intro _))
  all_goals (first | (split <;> assumption) | exact (q2_in _ _ _) | exact (zw_in _) | (constructor <;> omega) | (unfold zIn; omega) | trivial)
set_option maxRecDepth 20000 in
set_option maxHeartbeats 4000000 in
theorem ca_X12_joined_43 {G : zG} {us : Nat} (b c : Int) (H : PH) (hb : zIn b) (hc : zIn c) : Ca G us 1 190 [(0, 43), (0, b), (0, c)] H (fun r H' => H = H' ∧ ∃ x, r = some (0, x) ∧ zIn x) := by
  refine ⟨_, _, _, _, _, _, vm_X12_joined, by simp [pcat], ?_⟩
  refine tr_lab (D := 0) (t := 0) vb_X12_joined_0 _ ve_X12_joined_0 ?_
  simp (maxDischargeDepth := 12) [vb_X12_joined_0, wB, wI, k1, kI, kR, kL, k2, pget, pget_pset, pnl_pset, pnl_cons, pnl_nil, parg, ppush, pcat, zw_lit, zw_m1, zw_m2, zw_m3, zNC_eq, zrow, pup_app, sh_590, zw_in, q2_in, ptl, Op.lookupswitch.offset, hb, hc]
  repeat' (with_reducible (first | (refine And.intro ?_ ?_) | intro _))
  all_goals try (refine tr_lab (D := 0) (t := 52) vb_X12_joined_52 _ ve_X12_joined_52 ?_; simp (maxDischargeDepth := 12) [vb_X12_joined_52, wB, wI, k1, kI, kR, kL, k2, pget, pget_pset, pnl_pset, pnl_cons, pnl_nil, parg, ppush, pcat, zw_lit, zw_m1, zw_m2, zw_m3, zNC_eq, zrow, pup_app, sh_590, zw_in, q2_in, ptl, Op.lookupswitch.offset, hb, hc])
  all_goals repeat' (with_reducible (first | (refine And.intro ?_ ?_) | intro _))
  all_goals try (refine tr_lab (D := 0) (t := 56) vb_X12_joined_56 _ ve_X12_joined_56 ?_; simp (maxDischargeDepth := 12) [vb_X12_joined_56, wB, wI, k1, kI, kR, kL, k2, pget, pget_pset, pnl_pset, pnl_cons, pnl_nil, parg, ppush, pcat, zw_lit, zw_m1, zw_m2, zw_m3, zNC_eq, zrow, pup_app, sh_590, zw_in, q2_in, ptl, Op.lookupswitch.offset, hb, hc])
  all_goals repeat' (with_reducible (first | (refine And.intro ?_ ?_) | intro _))
  all_goals try (refine tr_lab (D := 0) (t := 60) vb_X12_joined_60 _ ve_X12_joined_60 ?_; simp (maxDischargeDepth := 12) [vb_X12_joined_60, wB, wI, k1, kI, kR, kL, k2, pget, pget_pset, pnl_pset, pnl_cons, pnl_nil, parg, ppush, pcat, zw_lit, zw_m1, zw_m2, zw_m3, zNC_eq, zrow, pup_app, sh_590, zw_in, q2_in, ptl, Op.lookupswitch.offset, hb, hc])
  all_goals repeat' (with_reducible (first | (refine And.intro ?_ ?_) | intro _))
  all_goals try (refine tr_lab (D := 0) (t := 64) vb_X12_joined_64 _ ve_X12_joined_64 ?_; simp (maxDischargeDepth := 12) [vb_X12_joined_64, wB, wI, k1, kI, kR, kL, k2, pget, pget_pset, pnl_pset, pnl_cons, pnl_nil, parg, ppush, pcat, zw_lit, zw_m1, zw_m2, zw_m3, zNC_eq, zrow, pup_app, sh_590, zw_in, q2_in, ptl, Op.lookupswitch.offset, hb, hc])
  all_goals repeat' (with_reducible (first | (refine And.intro ?_ ?_) | intro _))
  all_goals try (refine tr_lab (D := 0) (t := 72) vb_X12_joined_72 _ ve_X12_joined_72 ?_; simp (maxDischargeDepth := 12) [vb_X12_joined_72, wB, wI, k1, kI, kR, kL, k2, pget, pget_pset, pnl_pset, pnl_cons, pnl_nil, parg, ppush, pcat, zw_lit, zw_m1, zw_m2, zw_m3, zNC_eq, zrow, pup_app, sh_590, zw_in, q2_in, ptl, Op.lookupswitch.offset, hb, hc])
  all_goals repeat' (with_reducible (first | (refine And.intro ?_ ?_) | intro _))
  all_goals try (refine tr_lab (D := 0) (t := 75) vb_X12_joined_75 _ ve_X12_joined_75 ?_; simp (maxDischargeDepth := 12) [vb_X12_joined_75, wB, wI, k1, kI, kR, kL, k2, pget, pget_pset, pnl_pset, pnl_cons, pnl_nil, parg, ppush, pcat, zw_lit, zw_m1, zw_m2, zw_m3, zNC_eq, zrow, pup_app, sh_590, zw_in, q2_in, ptl, Op.lookupswitch.offset, hb, hc])
  all_goals repeat' (with_reducible (first | (refine And.intro ?_ ?_) | intro _))
  all_goals try (refine tr_lab (D := 0) (t := 76) vb_X12_joined_76 _ ve_X12_joined_76 ?_; simp (maxDischargeDepth := 12) [vb_X12_joined_76, wB, wI, k1, kI, kR, kL, k2, pget, pget_pset, pnl_pset, pnl_cons, pnl_nil, parg, ppush, pcat, zw_lit, zw_m1, zw_m2, zw_m3, zNC_eq, zrow, pup_app, sh_590, zw_in, q2_in, ptl, Op.lookupswitch.offset, hb, hc])
  all_goals repeat' (with_reducible (first | (refine And.intro ?_ ?_) | intro _))
  all_goals try (refine tr_lab (D := 0) (t := 85) vb_X12_joined_85 _ ve_X12_joined_85 ?_; simp (maxDischargeDepth := 12) [vb_X12_joined_85, wB, wI, k1, kI, kR, kL, k2, pget, pget_pset, pnl_pset, pnl_cons, pnl_nil, parg, ppush, pcat, zw_lit, zw_m1, zw_m2, zw_m3, zNC_eq, zrow, pup_app, sh_590, zw_in, q2_in, ptl, Op.lookupswitch.offset, hb, hc])
  all_goals repeat' (with_reducible (first | (refine And.intro ?_ ?_) | intro _))
  all_goals try (refine tr_lab (D := 0) (t := 86) vb_X12_joined_86 _ ve_X12_joined_86 ?_; simp (maxDischargeDepth := 12) [vb_X12_joined_86, wB, wI, k1, kI, kR, kL, k2, pget, pget_pset, pnl_pset, pnl_cons, pnl_nil, parg, ppush, pcat, zw_lit, zw_m1, zw_m2, zw_m3, zNC_eq, zrow, pup_app, sh_590, zw_in, q2_in, ptl, Op.lookupswitch.offset, hb, hc])
  all_goals repeat' (with_reducible (first | (refine And.intro ?_ ?_) | intro _))
  all_goals try (refine tr_lab (D := 0) (t := 87) vb_X12_joined_87 _ ve_X12_joined_87 ?_; simp (maxDischargeDepth := 12) [vb_X12_joined_87, wB, wI, k1, kI, kR, kL, k2, pget, pget_pset, pnl_pset, pnl_cons, pnl_nil, parg, ppush, pcat, zw_lit, zw_m1, zw_m2, zw_m3, zNC_eq, zrow, pup_app, sh_590, zw_in, q2_in, ptl, Op.lookupswitch.offset, hb, hc])
  all_goals repeat' (with_reducible (first | (refine And.intro ?_ ?_) | intro _))
  all_goals try (refine tr_lab (D := 0) (t := 96) vb_X12_joined_96 _ ve_X12_joined_96 ?_; simp (maxDischargeDepth := 12) [vb_X12_joined_96, wB, wI, k1, kI, kR, kL, k2, pget, pget_pset, pnl_pset, pnl_cons, pnl_nil, parg, ppush, pcat, zw_lit, zw_m1, zw_m2, zw_m3, zNC_eq, zrow, pup_app, sh_590, zw_in, q2_in, ptl, Op.lookupswitch.offset, hb, hc])
  all_goals repeat' (with_reducible (first | (refine And.intro ?_ ?_) | intro _))
  all_goals try (refine tr_lab (D := 0) (t := 97) vb_X12_joined_97 _ ve_X12_joined_97 ?_; simp (maxDischargeDepth := 12) [vb_X12_joined_97, wB, wI, k1, kI, kR, kL, k2, pget, pget_pset, pnl_pset, pnl_cons, pnl_nil, parg, ppush, pcat, zw_lit, zw_m1, zw_m2, zw_m3, zNC_eq, zrow, pup_app, sh_590, zw_in, q2_in, ptl, Op.lookupswitch.offset, hb, hc])
  all_goals repeat' (with_reducible (first | (refine And.intro ?_ ?_) | intro _))
  all_goals (first | (split <;> assumption) | exact (q2_in _ _ _) | exact (zw_in _) | (constructor <;> omega) | (unfold zIn; omega) | trivial)
set_option maxRecDepth 20000 in
set_option maxHeartbeats 4000000 in
theorem ca_X12_joined_45 {G : zG} {us : Nat} (b c : Int) (H : PH) (hb : zIn b) (hc : zIn c) : Ca G us 1 190 [(0, 45), (0, b), (0, c)] H (fun r H' => H = H' ∧ ∃ x, r = some (0, x) ∧ zIn x) := by
  refine ⟨_, _, _, _, _, _, vm_X12_joined, by simp [pcat], ?_⟩
  refine tr_lab (D := 0) (t := 0) vb_X12_joined_0 _ ve_X12_joined_0 ?_
  simp (maxDischargeDepth := 12) [vb_X12_joined_0, wB, wI, k1, kI, kR, kL, k2, pget, pget_pset, pnl_pset, pnl_cons, pnl_nil, parg, ppush, pcat, zw_lit, zw_m1, zw_m2, zw_m3, zNC_eq, zrow, pup_app, sh_590, zw_in, q2_in, ptl, Op.lookupswitch.offset, hb, hc]
  repeat' (with_reducible (first | (refine And.intro ?_ ?_) | intro _))
  all_goals try (refine tr_lab (D := 0) (t := 52) vb_X12_joined_52 _ ve_X12_joined_52 ?_; simp (maxDischargeDepth := 12) [vb_X12_joined_52, wB, wI, k1, kI, kR, kL, k2, pget, pget_pset, pnl_pset, pnl_cons, pnl_nil, parg, ppush, pcat, zw_lit, zw_m1, zw_m2, zw_m3, zNC_eq, zrow, pup_app, sh_590, zw_in, q2_in, ptl, Op.lookupswitch.offset, hb, hc])
  all_goals repeat' (with_reducible (first | (refine And.intro ?_ ?_) | intro _))
  all_goals try (refine tr_lab (D := 0) (t := 56) vb_X12_joined_56 _ ve_X12_joined_56 ?_; simp (maxDischargeDepth := 12) [vb_X12_joined_56, wB, wI, k1, kI, kR, kL, k2, pget, pget_pset, pnl_pset, pnl_cons, pnl_nil, parg, ppush, pcat, zw_lit, zw_m1, zw_m2, zw_m3, zNC_eq, zrow, pup_app, sh_590, zw_in, q2_in, ptl, Op.lookupswitch.offset, hb, hc])
  all_goals repeat' (with_reducible (first | (refine And.intro ?_ ?_) | intro _))
  all_goals try (refine tr_lab (D := 0) (t := 60) vb_X12_joined_60 _ ve_X12_joined_60 ?_; simp (maxDischargeDepth := 12) [vb_X12_joined_60, wB, wI, k1, kI, kR, kL, k2, pget, pget_pset, pnl_pset, pnl_cons, pnl_nil, parg, ppush, pcat, zw_lit, zw_m1, zw_m2, zw_m3, zNC_eq, zrow, pup_app, sh_590, zw_in, q2_in, ptl, Op.lookupswitch.offset, hb, hc])
  all_goals repeat' (with_reducible (first | (refine And.intro ?_ ?_) | intro _))
  all_goals try (refine tr_lab (D := 0) (t := 64) vb_X12_joined_64 _ ve_X12_joined_64 ?_; simp (maxDischargeDepth := 12) [vb_X12_joined_64, wB, wI, k1, kI, kR, kL, k2, pget, pget_pset, pnl_pset, pnl_cons, pnl_nil, parg, ppush, pcat, zw_lit, zw_m1, zw_m2, zw_m3, zNC_eq, zrow, pup_app, sh_590, zw_in, q2_in, ptl, Op.lookupswitch.offset, hb, hc])
  all_goals repeat' (with_reducible (first | (refine And.intro ?_ ?_) | intro _))
  all_goals try (refine tr_lab (D := 0) (t := 72) vb_X12_joined_72 _ ve_X12_joined_72 ?_; simp (maxDischargeDepth := 12) [vb_X12_joined_72, wB, wI, k1, kI, kR, kL, k2, pget, pget_pset, pnl_pset, pnl_cons, pnl_nil, parg, ppush, pcat, zw_lit, zw_m1, zw_m2, zw_m3, zNC_eq, zrow, pup_app, sh_590, zw_in, q2_in, ptl, Op.lookupswitch.offset, hb, hc])
  all_goals repeat' (with_reducible (first | (refine And.intro ?_ ?_) | intro _))
  all_goals try (refine tr_lab (D := 0) (t := 75) vb_X12_joined_75 _ ve_X12_joined_75 ?_; simp (maxDischargeDepth := 12) [vb_X12_joined_75, wB, wI, k1, kI, kR, kL, k2, pget, pget_pset, pnl_pset, pnl_cons, pnl_nil, parg, ppush, pcat, zw_lit, zw_m1, zw_m2, zw_m3, zNC_eq, zrow, pup_app, sh_590, zw_in, q2_in, ptl, Op.lookupswitch.offset, hb, hc])
  all_goals repeat' (with_reducible (first | (refine And.intro ?_ ?_) | intro _))
  all_goals try (refine tr_lab (D := 0) (t := 76) vb_X12_joined_76 _ ve_X12_joined_76 ?_; simp (maxDischargeDepth := 12) [vb_X12_joined_76, wB, wI, k1, kI, kR, kL, k2, pget, pget_pset, pnl_pset, pnl_cons, pnl_nil, parg, ppush, pcat, zw_lit, zw_m1, zw_m2, zw_m3, zNC_eq, zrow, pup_app, sh_590, zw_in, q2_in, ptl, Op.lookupswitch.offset, hb, hc])
  all_goals repeat' (with_reducible (first | (refine And.intro ?_ ?_) | intro _))
  all_goals try (refine tr_lab (D := 0) (t := 85) vb_X12_joined_85 _ ve_X12_joined_85 ?_; simp (maxDischargeDepth := 12) [vb_X12_joined_85, wB, wI, k1, kI, kR, kL, k2, pget, pget_pset, pnl_pset, pnl_cons, pnl_nil, parg, ppush, pcat, zw_lit, zw_m1, zw_m2, zw_m3, zNC_eq, zrow, pup_app, sh_590, zw_in, q2_in, ptl, Op.lookupswitch.offset, hb, hc])
  all_goals repeat' (with_reducible (first | (refine And.intro ?_ ?_) | intro _))
  all_goals try (refine tr_lab (D := 0) (t := 86) vb_X12_joined_86 _ ve_X12_joined_86 ?_; simp (maxDischargeDepth := 12) [vb_X12_joined_86, wB, wI, k1, kI, kR, kL, k2, pget, pget_pset, pnl_pset, pnl_cons, pnl_nil, parg, ppush, pcat, zw_lit, zw_m1, zw_m2, zw_m3, zNC_eq, zrow, pup_app, sh_590, zw_in, q2_in, ptl, Op.lookupswitch.offset, hb, hc])
  all_goals repeat' (with_reducible (first | (refine And.intro ?_ ?_) | intro _))
  all_goals try (refine tr_lab (D := 0) (t := 87) vb_X12_joined_87 _ ve_X12_joined_87 ?_; simp (maxDischargeDepth := 12) [vb_X12_joined_87, wB, wI, k1, kI, kR, kL, k2, pget, pget_pset, pnl_pset, pnl_cons, pnl_nil, parg, ppush, pcat, zw_lit, zw_m1, zw_m2, zw_m3, zNC_eq, zrow, pup_app, sh_590, zw_in, q2_in, ptl, Op.lookupswitch.offset, hb, hc])
  all_goals repeat' (with_reducible (first | (refine And.intro ?_ ?_) | intro _))
  all_goals try (refine tr_lab (D := 0) (t := 96) vb_X12_joined_96 _ ve_X12_joined_96 ?_; simp (maxDischargeDepth := 12) [vb_X12_joined_96, wB, wI, k1, kI, kR, kL, k2, pget, pget_pset, pnl_pset, pnl_cons, pnl_nil, parg, ppush, pcat, zw_lit, zw_m1, zw_m2, zw_m3, zNC_eq, zrow, pup_app, sh_590, zw_in, q2_in, ptl, Op.lookupswitch.offset, hb, hc])
  all_goals repeat' (with_reducible (first | (refine And.intro ?_ ?_) | intro _))
  all_goals try (refine tr_lab (D := 0) (t := 97) vb_X12_joined_97 _ ve_X12_joined_97 ?_; simp (maxDischargeDepth := 12) [vb_X12_joined_97, wB, wI, k1, kI, kR, kL, k2, pget, pget_pset, pnl_pset, pnl_cons, pnl_nil, parg, ppush, pcat, zw_lit, zw_m1, zw_m2, zw_m3, zNC_eq, zrow, pup_app, sh_590, zw_in, q2_in, ptl, Op.lookupswitch.offset, hb, hc])
  all_goals repeat' (with_reducible (first | (refine And.intro ?_ ?_) | intro _))
  all_goals (first | (split <;> assumption) | exact (q2_in _ _ _) | exact (zw_in _) | (constructor <;> omega) | (unfold zIn; omega) | trivial)
set_option maxRecDepth 20000 in
set_option maxHeartbeats 4000000 in
theorem ca_X12_joined_47 {G : zG} {us : Nat} (b c : Int) (H : PH) (hb : zIn b) (hc : zIn c) : Ca G us 1 190 [(0, 47), (0, b), (0, c)] H (fun r H' => H = H' ∧ ∃ x, r = some (0, x) ∧ zIn x) := by
  refine ⟨_, _, _, _, _, _, vm_X12_joined, by simp [pcat], ?_⟩
  refine tr_lab (D := 0) (t := 0) vb_X12_joined_0 _ ve_X12_joined_0 ?_
  simp (maxDischargeDepth := 12) [vb_X12_joined_0, wB, wI, k1, kI, kR, kL, k2, pget, pget_pset, pnl_pset, pnl_cons, pnl_nil, parg, ppush, pcat, zw_lit, zw_m1, zw_m2, zw_m3, zNC_eq, zrow, pup_app, sh_590, zw_in, q2_in, ptl, Op.lookupswitch.offset, hb, hc]
  repeat' (with_reducible (first | (refine And.intro ?_ ?_) | intro _))
  all_goals try (refine tr_lab (D := 0) (t := 52) vb_X12_joined_52 _ ve_X12_joined_52 ?_; simp (maxDischargeDepth := 12) [vb_X12_joined_52, wB, wI, k1, kI, kR, kL, k2, pget, pget_pset, pnl_pset, pnl_cons, pnl_nil, parg, ppush, pcat, zw_lit, zw_m1, zw_m2, zw_m3, zNC_eq, zrow, pup_app, sh_590, zw_in, q2_in, ptl, Op.lookupswitch.offset, hb, hc])
  all_goals repeat' (with_reducible (first | (refine And.intro ?_ ?_) | intro _))
  all_goals try (refine tr_lab (D := 0) (t := 56) vb_X12_joined_56 _ ve_X12_joined_56 ?_; simp (maxDischargeDepth := 12) [vb_X12_joined_56, wB, wI, k1, kI, kR, kL, k2, pget, pget_pset, pnl_pset, pnl_cons, pnl_nil, parg, ppush, pcat, zw_lit, zw_m1, zw_m2, zw_m3, zNC_eq, zrow, pup_app, sh_590, zw_in, q2_in, ptl, Op.lookupswitch.offset, hb, hc])
  all_goals repeat' (with_reducible (first | (refine And.intro ?_ ?_) | intro _))
  all_goals try (refine tr_lab (D := 0) (t := 60) vb_X12_joined_60 _ ve_X12_joined_60 ?_; simp (maxDischargeDepth := 12) [vb_X12_joined_60, wB, wI, k1, kI, kR, kL, k2, pget, pget_pset, pnl_pset, pnl_cons, pnl_nil, parg, ppush, pcat, zw_lit, zw_m1, zw_m2, zw_m3, zNC_eq, zrow, pup_app, sh_590, zw_in, q2_in, ptl, Op.lookupswitch.offset, hb, hc])
  all_goals repeat' (with_reducible (first | (refine And.intro ?_ ?_) | intro _))
  all_goals try (refine tr_lab (D := 0) (t := 64) vb_X12_joined_64 _ ve_X12_joined_64 ?_; simp (maxDischargeDepth := 12) [vb_X12_joined_64, wB, wI, k1, kI, kR, kL, k2, pget, pget_pset, pnl_pset, pnl_cons, pnl_nil, parg, ppush, pcat, zw_lit, zw_m1, zw_m2, zw_m3, zNC_eq, zrow, pup_app, sh_590, zw_in, q2_in, ptl, Op.lookupswitch.offset, hb, hc])
  all_goals repeat' (with_reducible (first | (refine And.intro ?_ ?_) | intro _))
  all_goals try (refine tr_lab (D := 0) (t := 72) vb_X12_joined_72 _ ve_X12_joined_72 ?_; simp (maxDischargeDepth := 12) [vb_X12_joined_72, wB, wI, k1, kI, kR, kL, k2, pget, pget_pset, pnl_pset, pnl_cons, pnl_nil, parg, ppush, pcat, zw_lit, zw_m1, zw_m2, zw_m3, zNC_eq, zrow, pup_app, sh_590, zw_in, q2_in, ptl, Op.lookupswitch.offset, hb, hc])
  all_goals repeat' (with_reducible (first | (refine And.intro ?_ ?_) | intro _))
  all_goals try (refine tr_lab (D := 0) (t := 75) vb_X12_joined_75 _ ve_X12_joined_75 ?_; simp (maxDischargeDepth := 12) [vb_X12_joined_75, wB, wI, k1, kI, kR, kL, k2, pget, pget_pset, pnl_pset, pnl_cons, pnl_nil, parg, ppush, pcat, zw_lit, zw_m1, zw_m2, zw_m3, zNC_eq, zrow, pup_app, sh_590, zw_in, q2_in, ptl, Op.lookupswitch.offset, hb, hc])
  all_goals repeat' (with_reducible (first | (refine And.intro ?_ ?_) | intro _))
  all_goals try (refine tr_lab (D := 0) (t := 76) vb_X12_joined_76 _ ve_X12_joined_76 ?_; simp (maxDischargeDepth := 12) [vb_X12_joined_76, wB, wI, k1, kI, kR, kL, k2, pget, pget_pset, pnl_pset, pnl_cons, pnl_nil, parg, ppush, pcat, zw_lit, zw_m1, zw_m2, zw_m3, zNC_eq, zrow, pup_app, sh_590, zw_in, q2_in, ptl, Op.lookupswitch.offset, hb, hc])
  all_goals repeat' (with_reducible (first | (refine And.intro ?_ ?_) | intro _))
  all_goals try (refine tr_lab (D := 0) (t := 85) vb_X12_joined_85 _ ve_X12_joined_85 ?_; simp (maxDischargeDepth := 12) [vb_X12_joined_85, wB, wI, k1, kI, kR, kL, k2, pget, pget_pset, pnl_pset, pnl_cons, pnl_nil, parg, ppush, pcat, zw_lit, zw_m1, zw_m2, zw_m3, zNC_eq, zrow, pup_app, sh_590, zw_in, q2_in, ptl, Op.lookupswitch.offset, hb, hc])
  all_goals repeat' (with_reducible (first | (refine And.intro ?_ ?_) | intro _))
  all_goals try (refine tr_lab (D := 0) (t := 86) vb_X12_joined_86 _ ve_X12_joined_86 ?_; simp (maxDischargeDepth := 12) [vb_X12_joined_86, wB, wI, k1, kI, kR, kL, k2, pget, pget_pset, pnl_pset, pnl_cons, pnl_nil, parg, ppush, pcat, zw_lit, zw_m1, zw_m2, zw_m3, zNC_eq, zrow, pup_app, sh_590, zw_in, q2_in, ptl, Op.lookupswitch.offset, hb, hc])
  all_goals repeat' (with_reducible (first | (refine And.intro ?_ ?_) | intro _))
  all_goals try (refine tr_lab (D := 0) (t := 87) vb_X12_joined_87 _ ve_X12_joined_87 ?_; simp (maxDischargeDepth := 12) [vb_X12_joined_87, wB, wI, k1, kI, kR, kL, k2, pget, pget_pset, pnl_pset, pnl_cons, pnl_nil, parg, ppush, pcat, zw_lit, zw_m1, zw_m2, zw_m3, zNC_eq, zrow, pup_app, sh_590, zw_in, q2_in, ptl, Op.lookupswitch.offset, hb, hc])
  all_goals repeat' (with_reducible (first | (refine And.intro ?_ ?_) | intro _))
  all_goals try (refine tr_lab (D := 0) (t := 96) vb_X12_joined_96 _ ve_X12_joined_96 ?_; simp (maxDischargeDepth := 12) [vb_X12_joined_96, wB, wI, k1, kI, kR, kL, k2, pget, pget_pset, pnl_pset, pnl_cons, pnl_nil, parg, ppush, pcat, zw_lit, zw_m1, zw_m2, zw_m3, zNC_eq, zrow, pup_app, sh_590, zw_in, q2_in, ptl, Op.lookupswitch.offset, hb, hc])
  all_goals repeat' (with_reducible (first | (refine And.intro ?_ ?_) | intro _))
  all_goals try (refine tr_lab (D := 0) (t := 97) vb_X12_joined_97 _ ve_X12_joined_97 ?_; simp (maxDischargeDepth := 12) [vb_X12_joined_97, wB, wI, k1, kI, kR, kL, k2, pget, pget_pset, pnl_pset, pnl_cons, pnl_nil, parg, ppush, pcat, zw_lit, zw_m1, zw_m2, zw_m3, zNC_eq, zrow, pup_app, sh_590, zw_in, q2_in, ptl, Op.lookupswitch.offset, hb, hc])
  all_goals repeat' (with_reducible (first | (refine And.intro ?_ ?_) | intro _))
  all_goals (first | (split <;> assumption) | exact (q2_in _ _ _) | exact (zw_in _) | (constructor <;> omega) | (unfold zIn; omega) | trivial)
set_option maxRecDepth 20000 in
set_option maxHeartbeats 4000000 in
theorem ca_X12_joined_60 {G : zG} {us : Nat} (b c : Int) (H : PH) (hb : zIn b) (hc : zIn c) : Ca G us 1 190 [(0, 60), (0, b), (0, c)] H (fun r H' => H = H' ∧ ∃ x, r = some (0, x) ∧ zIn x) := by
  refine ⟨_, _, _, _, _, _, vm_X12_joined, by simp [pcat], ?_⟩
  refine tr_lab (D := 0) (t := 0) vb_X12_joined_0 _ ve_X12_joined_0 ?_
  simp (maxDischargeDepth := 12) [vb_X12_joined_0, wB, wI, k1, kI, kR, kL, k2, pget, pget_pset, pnl_pset, pnl_cons, pnl_nil, parg, ppush, pcat, zw_lit, zw_m1, zw_m2, zw_m3, zNC_eq, zrow, pup_app, sh_590, zw_in, q2_in, ptl, Op.lookupswitch.offset, hb, hc]
  repeat' (with_reducible (first | (refine And.intro ?_ ?_) | intro _))
  all_goals try (refine tr_lab (D := 0) (t := 52) vb_X12_joined_52 _ ve_X12_joined_52 ?_; simp (maxDischargeDepth := 12) [vb_X12_joined_52, wB, wI, k1, kI, kR, kL, k2, pget, pget_pset, pnl_pset, pnl_cons, pnl_nil, parg, ppush, pcat, zw_lit, zw_m1, zw_m2, zw_m3, zNC_eq, zrow, pup_app, sh_590, zw_in, q2_in, ptl, Op.lookupswitch.offset, hb, hc])
  all_goals repeat' (with_reducible (first | (refine And.intro ?_ ?_) | intro _))
  all_goals try (refine tr_lab (D := 0) (t := 56) vb_X12_joined_56 _ ve_X12_joined_56 ?_; simp (maxDischargeDepth := 12) [vb_X12_joined_56, wB, wI, k1, kI, kR, kL, k2, pget, pget_pset, pnl_pset, pnl_cons, pnl_nil, parg, ppush, pcat, zw_lit, zw_m1, zw_m2, zw_m3, zNC_eq, zrow, pup_app, sh_590, zw_in, q2_in, ptl, Op.lookupswitch.offset, hb, hc])
  all_goals repeat' (with_reducible (first | (refine And.intro ?_ ?_) | intro _))
  all_goals try (refine tr_lab (D := 0) (t := 60) vb_X12_joined_60 _ ve_X12_joined_60 ?_; simp (maxDischargeDepth := 12) [vb_X12_joined_60, wB, wI, k1, kI, kR, kL, k2, pget, pget_pset, pnl_pset, pnl_cons, pnl_nil, parg, ppush, pcat, zw_lit, zw_m1, zw_m2, zw_m3, zNC_eq, zrow, pup_app, sh_590, zw_in, q2_in, ptl, Op.lookupswitch.offset, hb, hc])
  all_goals repeat' (with_reducible (first | (refine And.intro ?_ ?_) | intro _))
  all_goals try (refine tr_lab (D := 0) (t := 64) vb_X12_joined_64 _ ve_X12_joined_64 ?_; simp (maxDischargeDepth := 12) [vb_X12_joined_64, wB, wI, k1, kI, kR, kL, k2, pget, pget_pset, pnl_pset, pnl_cons, pnl_nil, parg, ppush, pcat, zw_lit, zw_m1, zw_m2, zw_m3, zNC_eq, zrow, pup_app, sh_590, zw_in, q2_in, ptl, Op.lookupswitch.offset, hb, hc])
  all_goals repeat' (with_reducible (first | (refine And.intro ?_ ?_) | intro _))
  all_goals try (refine tr_lab (D := 0) (t := 72) vb_X12_joined_72 _ ve_X12_joined_72 ?_; simp (maxDischargeDepth := 12) [vb_X12_joined_72, wB, wI, k1, kI, kR, kL, k2, pget, pget_pset, pnl_pset, pnl_cons, pnl_nil, parg, ppush, pcat, zw_lit, zw_m1, zw_m2, zw_m3, zNC_eq, zrow, pup_app, sh_590, zw_in, q2_in, ptl, Op.lookupswitch.offset, hb, hc])
  all_goals repeat' (with_reducible (first | (refine And.intro ?_ ?_) | intro _))
  all_goals try (refine tr_lab (D := 0) (t := 75) vb_X12_joined_75 _ ve_X12_joined_75 ?_; simp (maxDischargeDepth := 12) [vb_X12_joined_75, wB, wI, k1, kI, kR, kL, k2, pget, pget_pset, pnl_pset, pnl_cons, pnl_nil, parg, ppush, pcat, zw_lit, zw_m1, zw_m2, zw_m3, zNC_eq, zrow, pup_app, sh_590, zw_in, q2_in, ptl, Op.lookupswitch.offset, hb, hc])
  all_goals repeat' (with_reducible (first | (refine And.intro ?_ ?_) | intro _))
  all_goals try (refine tr_lab (D := 0) (t := 76) vb_X12_joined_76 _ ve_X12_joined_76 ?_; simp (maxDischargeDepth := 12) [vb_X12_joined_76, wB, wI, k1, kI, kR, kL, k2, pget, pget_pset, pnl_pset, pnl_cons, pnl_nil, parg, ppush, pcat, zw_lit, zw_m1, zw_m2, zw_m3, zNC_eq, zrow, pup_app, sh_590, zw_in, q2_in, ptl, Op.lookupswitch.offset, hb, hc])
  all_goals repeat' (with_reducible (first | (refine And.intro ?_ ?_) | intro _))
  all_goals try (refine tr_lab (D := 0) (t := 85) vb_X12_joined_85 _ ve_X12_joined_85 ?_; simp (maxDischargeDepth := 12) [vb_X12_joined_85, wB, wI, k1, kI, kR, kL, k2, pget, pget_pset, pnl_pset, pnl_cons, pnl_nil, parg, ppush, pcat, zw_lit, zw_m1, zw_m2, zw_m3, zNC_eq, zrow, pup_app, sh_590, zw_in, q2_in, ptl, Op.lookupswitch.offset, hb, hc])
  all_goals repeat' (with_reducible (first | (refine And.intro ?_ ?_) | intro _))
  all_goals try (refine tr_lab (D := 0) (t := 86) vb_X12_joined_86 _ ve_X12_joined_86 ?_; simp (maxDischargeDepth := 12) [vb_X12_joined_86, wB, wI, k1, kI, kR, kL, k2, pget, pget_pset, pnl_pset, pnl_cons, pnl_nil, parg, ppush, pcat, zw_lit, zw_m1, zw_m2, zw_m3, zNC_eq, zrow, pup_app, sh_590, zw_in, q2_in, ptl, Op.lookupswitch.offset, hb, hc])
  all_goals repeat' (with_reducible (first | (refine And.intro ?_ ?_) | intro _))
  all_goals try (refine tr_lab (D := 0) (t := 87) vb_X12_joined_87 _ ve_X12_joined_87 ?_; simp (maxDischargeDepth := 12) [vb_X12_joined_87, wB, wI, k1, kI, kR, kL, k2, pget, pget_pset, pnl_pset, pnl_cons, pnl_nil, parg, ppush, pcat, zw_lit, zw_m1, zw_m2, zw_m3, zNC_eq, zrow, pup_app, sh_590, zw_in, q2_in, ptl, Op.lookupswitch.offset, hb, hc])
  all_goals repeat' (with_reducible (first | (refine And.intro ?_ ?_) | intro _))
  all_goals try (refine tr_lab (D := 0) (t := 96) vb_X12_joined_96 _ ve_X12_joined_96 ?_; simp (maxDischargeDepth := 12) [vb_X12_joined_96, wB, wI, k1, kI, kR, kL, k2, pget, pget_pset, pnl_pset, pnl_cons, pnl_nil, parg, ppush, pcat, zw_lit, zw_m1, zw_m2, zw_m3, zNC_eq, zrow, pup_app, sh_590, zw_in, q2_in, ptl, Op.lookupswitch.offset, hb, hc])
  all_goals repeat' (with_reducible (first | (refine And.intro ?_ ?_) | intro _))
  all_goals try (refine tr_lab (D := 0) (t := 97) vb_X12_joined_97 _ ve_X12_joined_97 ?_; simp (maxDischargeDepth := 12) [vb_X12_joined_97, wB, wI, k1, kI, kR, kL, k2, pget, pget_pset, pnl_pset, pnl_cons, pnl_nil, parg, ppush, pcat, zw_lit, zw_m1, zw_m2, zw_m3, zNC_eq, zrow, pup_app, sh_590, zw_in, q2_in, ptl, Op.lookupswitch.offset, hb, hc])
  all_goals repeat' (with_reducible (first | (refine And.intro ?_ ?_) | intro _))
  all_goals (first | (split <;> assumption) | exact (q2_in _ _ _) | exact (zw_in _) | (constructor <;> omega) | (unfold zIn; omega) | trivial)
set_option maxRecDepth 20000 in
set_option maxHeartbeats 4000000 in
theorem ca_X12_joined_d {G : zG} {us : Nat} (a b c : Int) (H : PH) (hb : zIn b) (hc : zIn c) (h42 : ¬ a = 42) (h43 : ¬ a = 43) (h45 : ¬ a = 45) (h47 : ¬ a = 47) (h60 : ¬ a = 60) : Ca G us 1 190 [(0, a), (0, b), (0, c)] H (fun r H' => H = H' ∧ ∃ x, r = some (0, x) ∧ zIn x) := by
  have g42 : ¬ (42 : Int) = a := fun q => h42 q.symm
  have g43 : ¬ (43 : Int) = a := fun q => h43 q.symm
  have g45 : ¬ (45 : Int) = a := fun q => h45 q.symm
  have g47 : ¬ (47 : Int) = a := fun q => h47 q.symm
  have g60 : ¬ (60 : Int) = a := fun q => h60 q.symm
  refine ⟨_, _, _, _, _, _, vm_X12_joined, by simp [pcat], ?_⟩
  refine tr_lab (D := 0) (t := 0) vb_X12_joined_0 _ ve_X12_joined_0 ?_
  simp (maxDischargeDepth := 12) [vb_X12_joined_0, wB, wI, k1, kI, kR, kL, k2, pget, pget_pset, pnl_pset, pnl_cons, pnl_nil, parg, ppush, pcat, zw_lit, zw_m1, zw_m2, zw_m3, zNC_eq, zrow, pup_app, sh_590, zw_in, q2_in, ptl, Op.lookupswitch.offset, hb, hc, h42, h43, h45, h47, h60, g42, g43, g45, g47, g60]
  repeat' (with_reducible (first | (refine And.intro ?_ ?_) | intro _))
  all_goals try (refine tr_lab (D := 0) (t := 52) vb_X12_joined_52 _ ve_X12_joined_52 ?_; simp (maxDischargeDepth := 12) [vb_X12_joined_52, wB, wI, k1, kI, kR, kL, k2, pget, pget_pset, pnl_pset, pnl_cons, pnl_nil, parg, ppush, pcat, zw_lit, zw_m1, zw_m2, zw_m3, zNC_eq, zrow, pup_app, sh_590, zw_in, q2_in, ptl, Op.lookupswitch.offset, hb, hc, h42, h43, h45, h47, h60, g42, g43, g45, g47, g60])
  all_goals repeat' (with_reducible (first | (refine And.intro ?_ ?_) | intro _))
  all_goals try (refine tr_lab (D := 0) (t := 56) vb_X12_joined_56 _ ve_X12_joined_56 ?_; simp (maxDischargeDepth := 12) [vb_X12_joined_56, wB, wI, k1, kI, kR, kL, k2, pget, pget_pset, pnl_pset, pnl_cons, pnl_nil, parg, ppush, pcat, zw_lit, zw_m1, zw_m2, zw_m3, zNC_eq, zrow, pup_app, sh_590, zw_in, q2_in, ptl, Op.lookupswitch.offset, hb, hc, h42, h43, h45, h47, h60, g42, g43, g45, g47, g60])
  all_goals repeat' (with_reducible (first | (refine And.intro ?_ ?_) | intro _))
  all_goals try (refine tr_lab (D := 0) (t := 60) vb_X12_joined_60 _ ve_X12_joined_60 ?_; simp (maxDischargeDepth := 12) [vb_X12_joined_60, wB, wI, k1, kI, kR, kL, k2, pget, pget_pset, pnl_pset, pnl_cons, pnl_nil, parg, ppush, pcat, zw_lit, zw_m1, zw_m2, zw_m3, zNC_eq, zrow, pup_app, sh_590, zw_in, q2_in, ptl, Op.lookupswitch.offset, hb, hc, h42, h43, h45, h47, h60, g42, g43, g45, g47, g60])
  all_goals repeat' (with_reducible (first | (refine And.intro ?_ ?_) | intro _))
  all_goals try (refine tr_lab (D := 0) (t := 64) vb_X12_joined_64 _ ve_X12_joined_64 ?_; simp (maxDischargeDepth := 12) [vb_X12_joined_64, wB, wI, k1, kI, kR, kL, k2, pget, pget_pset, pnl_pset, pnl_cons, pnl_nil, parg, ppush, pcat, zw_lit, zw_m1, zw_m2, zw_m3, zNC_eq, zrow, pup_app, sh_590, zw_in, q2_in, ptl, Op.lookupswitch.offset, hb, hc, h42, h43, h45, h47, h60, g42, g43, g45, g47, g60])
  all_goals repeat' (with_reducible (first | (refine And.intro ?_ ?_) | intro _))
  all_goals try (refine tr_lab (D := 0) (t := 72) vb_X12_joined_72 _ ve_X12_joined_72 ?_; simp (maxDischargeDepth := 12) [vb_X12_joined_72, wB, wI, k1, kI, kR, kL, k2, pget, pget_pset, pnl_pset, pnl_cons, pnl_nil, parg, ppush, pcat, zw_lit, zw_m1, zw_m2, zw_m3, zNC_eq, zrow, pup_app, sh_590, zw_in, q2_in, ptl, Op.lookupswitch.offset, hb, hc, h42, h43, h45, h47, h60, g42, g43, g45, g47, g60])
  all_goals repeat' (with_reducible (first | (refine And.intro ?_ ?_) | intro _))
  all_goals try (refine tr_lab (D := 0) (t := 75) vb_X12_joined_75 _ ve_X12_joined_75 ?_; simp (maxDischargeDepth := 12) [vb_X12_joined_75, wB, wI, k1, kI, kR, kL, k2, pget, pget_pset, pnl_pset, pnl_cons, pnl_nil, parg, ppush, pcat, zw_lit, zw_m1, zw_m2, zw_m3, zNC_eq, zrow, pup_app, sh_590, zw_in, q2_in, ptl, Op.lookupswitch.offset, hb, hc, h42, h43, h45, h47, h60, g42, g43, g45, g47, g60])
  all_goals repeat' (with_reducible (first | (refine And.intro ?_ ?_) | intro _))
  all_goals try (refine tr_lab (D := 0) (t := 76) vb_X12_joined_76 _ ve_X12_joined_76 ?_; simp (maxDischargeDepth := 12) [vb_X12_joined_76, wB, wI, k1, kI, kR, kL, k2, pget, pget_pset, pnl_pset, pnl_cons, pnl_nil, parg, ppush, pcat, zw_lit, zw_m1, zw_m2, zw_m3, zNC_eq, zrow, pup_app, sh_590, zw_in, q2_in, ptl, Op.lookupswitch.offset, hb, hc, h42, h43, h45, h47, h60, g42, g43, g45, g47, g60])
  all_goals repeat' (with_reducible (first | (refine And.intro ?_ ?_) | intro _))
  all_goals try (refine tr_lab (D := 0) (t := 85) vb_X12_joined_85 _ ve_X12_joined_85 ?_; simp (maxDischargeDepth := 12) [vb_X12_joined_85, wB, wI, k1, kI, kR, kL, k2, pget, pget_pset, pnl_pset, pnl_cons, pnl_nil, parg, ppush, pcat, zw_lit, zw_m1, zw_m2, zw_m3, zNC_eq, zrow, pup_app, sh_590, zw_in, q2_in, ptl, Op.lookupswitch.offset, hb, hc, h42, h43, h45, h47, h60, g42, g43, g45, g47, g60])
  all_goals repeat' (with_reducible (first | (refine And.intro ?_ ?_) | intro _))
  all_goals try (refine tr_lab (D := 0) (t := 86) vb_X12_joined_86 _ ve_X12_joined_86 ?_; simp (maxDischargeDepth := 12) [vb_X12_joined_86, wB, wI, k1, kI, kR, kL, k2, pget, pget_pset, pnl_pset, pnl_cons, pnl_nil, parg, ppush, pcat, zw_lit, zw_m1, zw_m2, zw_m3, zNC_eq, zrow, pup_app, sh_590, zw_in, q2_in, ptl, Op.lookupswitch.offset, hb, hc, h42, h43, h45, h47, h60, g42, g43, g45, g47, g60])
  all_goals repeat' (with_reducible (first | (refine And.intro ?_ ?_) | intro _))
  all_goals try (refine tr_lab (D := 0) (t := 87) vb_X12_joined_87 _ ve_X12_joined_87 ?_; simp (maxDischargeDepth := 12) [vb_X12_joined_87, wB, wI, k1, kI, kR, kL, k2, pget, pget_pset, pnl_pset, pnl_cons, pnl_nil, parg, ppush, pcat, zw_lit, zw_m1, zw_m2, zw_m3, zNC_eq, zrow, pup_app, sh_590, zw_in, q2_in, ptl, Op.lookupswitch.offset, hb, hc, h42, h43, h45, h47, h60, g42, g43, g45, g47, g60])
  all_goals repeat' (with_reducible (first | (refine And.intro ?_ ?_) | intro _))
  all_goals try (refine tr_lab (D := 0) (t := 96) vb_X12_joined_96 _ ve_X12_joined_96 ?_; simp (maxDischargeDepth := 12) [vb_X12_joined_96, wB, wI, k1, kI, kR, kL, k2, pget, pget_pset, pnl_pset, pnl_cons, pnl_nil, parg, ppush, pcat, zw_lit, zw_m1, zw_m2, zw_m3, zNC_eq, zrow, pup_app, sh_590, zw_in, q2_in, ptl, Op.lookupswitch.offset, hb, hc, h42, h43, h45, h47, h60, g42, g43, g45, g47, g60])
  all_goals repeat' (with_reducible (first | (refine And.intro ?_ ?_) | intro _))
  all_goals try (refine tr_lab (D := 0) (t := 97) vb_X12_joined_97 _ ve_X12_joined_97 ?_; simp (maxDischargeDepth := 12) [vb_X12_joined_97, wB, wI, k1, kI, kR, kL, k2, pget, pget_pset, pnl_pset, pnl_cons, pnl_nil, parg, ppush, pcat, zw_lit, zw_m1, zw_m2, zw_m3, zNC_eq, zrow, pup_app, sh_590, zw_in, q2_in, ptl, Op.lookupswitch.offset, hb, hc, h42, h43, h45, h47, h60, g42, g43, g45, g47, g60])
  all_goals repeat' (with_reducible (first | (refine And.intro ?_ ?_) | intro _))
  all_goals (first | (split <;> assumption) | exact (q2_in _ _ _) | exact (zw_in _) | (constructor <;> omega) | (unfold zIn; omega) | trivial)
theorem ca_X12_joined {G : zG} {us : Nat} (a b c : Int) (H : PH) (hb : zIn b) (hc : zIn c) : Ca G us 1 190 [(0, a), (0, b), (0, c)] H (fun r H' => H = H' ∧ ∃ x, r = some (0, x) ∧ zIn x) := by
  by_cases h42 : a = 42
  · subst h42
    exact ca_X12_joined_42 b c H hb hc
  by_cases h43 : a = 43
  · subst h43
    exact ca_X12_joined_43 b c H hb hc
  by_cases h45 : a = 45
  · subst h45
    exact ca_X12_joined_45 b c H hb hc
  by_cases h47 : a = 47
  · subst h47
    exact ca_X12_joined_47 b c H hb hc
  by_cases h60 : a = 60
  · subst h60
    exact ca_X12_joined_60 b c H hb hc
  exact ca_X12_joined_d a b c H hb hc h42 h43 h45 h47 h60






set_option maxRecDepth 20000 in
set_option maxHeartbeats 4000000 in
theorem ca_X10_isDigit {G : zG} {us : Nat} (c : Int) (H : PH)  : Ca G us 1 98 [(0, c)] H (fun r H' => H = H' ∧ r = some (0, if 48 ≤ c ∧ c ≤ 57 then 1 else 0)) := by
  refine ⟨_, _, _, _, _, _, vm_X10_isDigit, by simp [pcat], ?_⟩
  refine tr_lab (D := 0) (t := 0) vb_X10_isDigit_0 _ ve_X10_isDigit_0 ?_
  simp (maxDischargeDepth := 12) [vb_X10_isDigit_0, wB, wI, k1, kI, kR, kL, k2, pget, pget_pset, pnl_pset, pnl_cons, pnl_nil, parg, ppush, pcat, zw_lit, zw_m1, zw_m2, zw_m3, zNC_eq, zrow, pup_app, sh_590]
  repeat' (with_reducible (first | (refine And.intro ?_ ?_) | intro _))
  all_goals try (refine tr_lab (D := 0) (t := 16) vb_X10_isDigit_16 _ ve_X10_isDigit_16 ?_; simp (maxDischargeDepth := 12) [vb_X10_isDigit_16, wB, wI, k1, kI, kR, kL, k2, pget, pget_pset, pnl_pset, pnl_cons, pnl_nil, parg, ppush, pcat, zw_lit, zw_m1, zw_m2, zw_m3, zNC_eq, zrow, pup_app, sh_590])
  all_goals repeat' (with_reducible (first | (refine And.intro ?_ ?_) | intro _))
  all_goals try (refine tr_lab (D := 0) (t := 17) vb_X10_isDigit_17 _ ve_X10_isDigit_17 ?_; simp (maxDischargeDepth := 12) [vb_X10_isDigit_17, wB, wI, k1, kI, kR, kL, k2, pget, pget_pset, pnl_pset, pnl_cons, pnl_nil, parg, ppush, pcat, zw_lit, zw_m1, zw_m2, zw_m3, zNC_eq, zrow, pup_app, sh_590])
  all_goals repeat' (with_reducible (first | (refine And.intro ?_ ?_) | intro _))
  all_goals omega


set_option maxRecDepth 20000 in
set_option maxHeartbeats 4000000 in
theorem ca_X4_isSumSign {G : zG} {us : Nat} (c : Int) (H : PH)  : Ca G us 1 48 [(0, c)] H (fun r H' => H = H' ∧ r = some (0, if c = 43 ∨ c = 45 then 1 else 0)) := by
  refine ⟨_, _, _, _, _, _, vm_X4_isSumSign, by simp [pcat], ?_⟩
  refine tr_lab (D := 0) (t := 0) vb_X4_isSumSign_0 _ ve_X4_isSumSign_0 ?_
  simp (maxDischargeDepth := 12) [vb_X4_isSumSign_0, wB, wI, k1, kI, kR, kL, k2, pget, pget_pset, pnl_pset, pnl_cons, pnl_nil, parg, ppush, pcat, zw_lit, zw_m1, zw_m2, zw_m3, zNC_eq, zrow, pup_app, sh_590]
  repeat' (with_reducible (first | (refine And.intro ?_ ?_) | intro _))
  all_goals try (refine tr_lab (D := 0) (t := 12) vb_X4_isSumSign_12 _ ve_X4_isSumSign_12 ?_; simp (maxDischargeDepth := 12) [vb_X4_isSumSign_12, wB, wI, k1, kI, kR, kL, k2, pget, pget_pset, pnl_pset, pnl_cons, pnl_nil, parg, ppush, pcat, zw_lit, zw_m1, zw_m2, zw_m3, zNC_eq, zrow, pup_app, sh_590])
  all_goals repeat' (with_reducible (first | (refine And.intro ?_ ?_) | intro _))
  all_goals try (refine tr_lab (D := 0) (t := 16) vb_X4_isSumSign_16 _ ve_X4_isSumSign_16 ?_; simp (maxDischargeDepth := 12) [vb_X4_isSumSign_16, wB, wI, k1, kI, kR, kL, k2, pget, pget_pset, pnl_pset, pnl_cons, pnl_nil, parg, ppush, pcat, zw_lit, zw_m1, zw_m2, zw_m3, zNC_eq, zrow, pup_app, sh_590])
  all_goals repeat' (with_reducible (first | (refine And.intro ?_ ?_) | intro _))
  all_goals try (refine tr_lab (D := 0) (t := 17) vb_X4_isSumSign_17 _ ve_X4_isSumSign_17 ?_; simp (maxDischargeDepth := 12) [vb_X4_isSumSign_17, wB, wI, k1, kI, kR, kL, k2, pget, pget_pset, pnl_pset, pnl_cons, pnl_nil, parg, ppush, pcat, zw_lit, zw_m1, zw_m2, zw_m3, zNC_eq, zrow, pup_app, sh_590])
  all_goals repeat' (with_reducible (first | (refine And.intro ?_ ?_) | intro _))
  all_goals omega


set_option maxRecDepth 20000 in
set_option maxHeartbeats 4000000 in
theorem ca_X4_isProductSign {G : zG} {us : Nat} (c : Int) (H : PH)  : Ca G us 1 49 [(0, c)] H (fun r H' => H = H' ∧ r = some (0, if c = 42 ∨ c = 47 ∨ c = 60 ∨ c = 62 then 1 else 0)) := by
  refine ⟨_, _, _, _, _, _, vm_X4_isProductSign, by simp [pcat], ?_⟩
  refine tr_lab (D := 0) (t := 0) vb_X4_isProductSign_0 _ ve_X4_isProductSign_0 ?_
  simp (maxDischargeDepth := 12) [vb_X4_isProductSign_0, wB, wI, k1, kI, kR, kL, k2, pget, pget_pset, pnl_pset, pnl_cons, pnl_nil, parg, ppush, pcat, zw_lit, zw_m1, zw_m2, zw_m3, zNC_eq, zrow, pup_app, sh_590]
  repeat' (with_reducible (first | (refine And.intro ?_ ?_) | intro _))
  all_goals try (refine tr_lab (D := 0) (t := 24) vb_X4_isProductSign_24 _ ve_X4_isProductSign_24 ?_; simp (maxDischargeDepth := 12) [vb_X4_isProductSign_24, wB, wI, k1, kI, kR, kL, k2, pget, pget_pset, pnl_pset, pnl_cons, pnl_nil, parg, ppush, pcat, zw_lit, zw_m1, zw_m2, zw_m3, zNC_eq, zrow, pup_app, sh_590])
  all_goals repeat' (with_reducible (first | (refine And.intro ?_ ?_) | intro _))
  all_goals try (refine tr_lab (D := 0) (t := 28) vb_X4_isProductSign_28 _ ve_X4_isProductSign_28 ?_; simp (maxDischargeDepth := 12) [vb_X4_isProductSign_28, wB, wI, k1, kI, kR, kL, k2, pget, pget_pset, pnl_pset, pnl_cons, pnl_nil, parg, ppush, pcat, zw_lit, zw_m1, zw_m2, zw_m3, zNC_eq, zrow, pup_app, sh_590])
  all_goals repeat' (with_reducible (first | (refine And.intro ?_ ?_) | intro _))
  all_goals try (refine tr_lab (D := 0) (t := 29) vb_X4_isProductSign_29 _ ve_X4_isProductSign_29 ?_; simp (maxDischargeDepth := 12) [vb_X4_isProductSign_29, wB, wI, k1, kI, kR, kL, k2, pget, pget_pset, pnl_pset, pnl_cons, pnl_nil, parg, ppush, pcat, zw_lit, zw_m1, zw_m2, zw_m3, zNC_eq, zrow, pup_app, sh_590])
  all_goals repeat' (with_reducible (first | (refine And.intro ?_ ?_) | intro _))
  all_goals omega


set_option maxRecDepth 20000 in
set_option maxHeartbeats 4000000 in
theorem ca_X8_codeOf {G : zG} {us : Nat} (c : Int) (H : PH)  : Ca G us 2 73 [(0, c)] H (fun r H' => H = H' ∧ ∃ x, r = some (0, x) ∧ (x = 0 ∨ (48 ≤ c ∧ c ≤ 90 ∧ 1 ≤ x ∧ x ≤ 36))) := by
  refine ⟨_, _, _, _, _, _, vm_X8_codeOf, by simp [pcat], ?_⟩
  refine tr_lab (D := 1) (t := 0) vb_X8_codeOf_0 _ ve_X8_codeOf_0 ?_
  simp (maxDischargeDepth := 12) [vb_X8_codeOf_0, wB, wI, k1, kI, kR, kL, k2, pget, pget_pset, pnl_pset, pnl_cons, pnl_nil, parg, ppush, pcat, zw_lit, zw_m1, zw_m2, zw_m3, zNC_eq, zrow, pup_app, sh_590]
  repeat' (with_reducible (first | (refine And.intro ?_ ?_) | intro _))
  all_goals try (refine Ca_use (ca_X11_within _ _ _ _) (by omega) ?_; rintro _ _ ⟨rfl, rfl⟩; simp (maxDischargeDepth := 12) [wB, wI, k1, kI, kR, kL, k2, pget, pget_pset, pnl_pset, pnl_cons, pnl_nil, parg, ppush, pcat, zw_lit, zw_m1, zw_m2, zw_m3, zNC_eq, zrow, pup_app, sh_590])
  all_goals repeat' (with_reducible (first | (refine And.intro ?_ ?_) | intro _))
  all_goals try (refine tr_lab (D := 1) (t := 18) vb_X8_codeOf_18 _ ve_X8_codeOf_18 ?_; simp (maxDischargeDepth := 12) [vb_X8_codeOf_18, wB, wI, k1, kI, kR, kL, k2, pget, pget_pset, pnl_pset, pnl_cons, pnl_nil, parg, ppush, pcat, zw_lit, zw_m1, zw_m2, zw_m3, zNC_eq, zrow, pup_app, sh_590])
  all_goals repeat' (with_reducible (first | (refine And.intro ?_ ?_) | intro _))
  all_goals try (refine Ca_use (ca_X11_within _ _ _ _) (by omega) ?_; rintro _ _ ⟨rfl, rfl⟩; simp (maxDischargeDepth := 12) [wB, wI, k1, kI, kR, kL, k2, pget, pget_pset, pnl_pset, pnl_cons, pnl_nil, parg, ppush, pcat, zw_lit, zw_m1, zw_m2, zw_m3, zNC_eq, zrow, pup_app, sh_590])
  all_goals repeat' (with_reducible (first | (refine And.intro ?_ ?_) | intro _))
  all_goals try (refine tr_lab (D := 1) (t := 39) vb_X8_codeOf_39 _ ve_X8_codeOf_39 ?_; simp (maxDischargeDepth := 12) [vb_X8_codeOf_39, wB, wI, k1, kI, kR, kL, k2, pget, pget_pset, pnl_pset, pnl_cons, pnl_nil, parg, ppush, pcat, zw_lit, zw_m1, zw_m2, zw_m3, zNC_eq, zrow, pup_app, sh_590])
  all_goals repeat' (with_reducible (first | (refine And.intro ?_ ?_) | intro _))
  all_goals try (refine tr_lab (D := 1) (t := 40) vb_X8_codeOf_40 _ ve_X8_codeOf_40 ?_; simp (maxDischargeDepth := 12) [vb_X8_codeOf_40, wB, wI, k1, kI, kR, kL, k2, pget, pget_pset, pnl_pset, pnl_cons, pnl_nil, parg, ppush, pcat, zw_lit, zw_m1, zw_m2, zw_m3, zNC_eq, zrow, pup_app, sh_590])
  all_goals repeat' (with_reducible (first | (refine And.intro ?_ ?_) | intro _))
  all_goals (first | omega | (simp (disch := omega) only [zw_lit]; omega))


set_option maxRecDepth 20000 in
set_option maxHeartbeats 4000000 in
theorem ca_X10_digitUpTo {G : zG} {us : Nat} (m : Int) (H : PH) (h0 : 0 ≤ H 213 2) (h1 : H 213 2 ≤ 600) (h2 : H 213 1 ≤ 600) (hm : m ≤ 9) : Ca G us 2 99 [(2, 213), (0, m)] H (fun r H' => (r = some (0, -1) ∧ H' = pup H 213 3 (H 213 2)) ∨ ((∃ x, r = some (0, x) ∧ 0 ≤ x ∧ x ≤ m) ∧ H 213 2 < H 213 1 ∧ H' = pup H 213 2 (H 213 2 + 1))) := by
  have hb := nx_b H
  refine ⟨_, _, _, _, _, _, vm_X10_digitUpTo, by simp [pcat], ?_⟩
  refine tr_lab (D := 1) (t := 0) vb_X10_digitUpTo_0 _ ve_X10_digitUpTo_0 ?_
  simp (maxDischargeDepth := 12) [vb_X10_digitUpTo_0, wB, wI, k1, kI, kR, kL, k2, pget, pget_pset, pnl_pset, pnl_cons, pnl_nil, parg, ppush, pcat, zw_lit, zw_m1, zw_m2, zw_m3, zNC_eq, zrow, pup_app, gv_213_2, pe, tg_10_2, zfit, zisI, sh_590, sh_213]
  repeat' (with_reducible (first | (refine And.intro ?_ ?_) | intro _))
  all_goals try (refine Ca_use (ca_X10_next _ (by first | omega | (simp (disch := omega) [pup_app, zw_lit] <;> omega)) (by first | omega | (simp (disch := omega) [pup_app, zw_lit] <;> omega)) (by first | omega | (simp (disch := omega) [pup_app, zw_lit] <;> omega))) (by omega) ?_; rintro _ _ ⟨rfl, rfl⟩; simp (maxDischargeDepth := 12) [wB, wI, k1, kI, kR, kL, k2, pget, pget_pset, pnl_pset, pnl_cons, pnl_nil, parg, ppush, pcat, zw_lit, zw_m1, zw_m2, zw_m3, zNC_eq, zrow, pup_app, gv_213_2, pe, tg_10_2, zfit, zisI, sh_590, sh_213])
  all_goals repeat' (with_reducible (first | (refine And.intro ?_ ?_) | intro _))
  all_goals try (refine Ca_use (ca_X11_within _ _ _ _) (by omega) ?_; rintro _ _ ⟨rfl, rfl⟩; simp (maxDischargeDepth := 12) [wB, wI, k1, kI, kR, kL, k2, pget, pget_pset, pnl_pset, pnl_cons, pnl_nil, parg, ppush, pcat, zw_lit, zw_m1, zw_m2, zw_m3, zNC_eq, zrow, pup_app, gv_213_2, pe, tg_10_2, zfit, zisI, sh_590, sh_213])
  all_goals repeat' (with_reducible (first | (refine And.intro ?_ ?_) | intro _))
  all_goals try (refine Ca_use (ca_X10_fail _ _) (by omega) ?_; rintro _ _ ⟨rfl, rfl⟩; simp (maxDischargeDepth := 12) [wB, wI, k1, kI, kR, kL, k2, pget, pget_pset, pnl_pset, pnl_cons, pnl_nil, parg, ppush, pcat, zw_lit, zw_m1, zw_m2, zw_m3, zNC_eq, zrow, pup_app, gv_213_2, pe, tg_10_2, zfit, zisI, sh_590, sh_213])
  all_goals repeat' (with_reducible (first | (refine And.intro ?_ ?_) | intro _))
  all_goals try (refine tr_lab (D := 1) (t := 28) vb_X10_digitUpTo_28 _ ve_X10_digitUpTo_28 ?_; simp (maxDischargeDepth := 12) [vb_X10_digitUpTo_28, wB, wI, k1, kI, kR, kL, k2, pget, pget_pset, pnl_pset, pnl_cons, pnl_nil, parg, ppush, pcat, zw_lit, zw_m1, zw_m2, zw_m3, zNC_eq, zrow, pup_app, gv_213_2, pe, tg_10_2, zfit, zisI, sh_590, sh_213])
  all_goals repeat' (with_reducible (first | (refine And.intro ?_ ?_) | intro _))
  all_goals (first | omega | (refine Or.inr ⟨by omega, ?_, ?_⟩ <;> (first | omega | (simp only [zw] at *; omega) | (simp (disch := omega) only [zw_lit]))))


set_option maxRecDepth 20000 in
set_option maxHeartbeats 4000000 in
theorem lp_X10_digits_16 {G : zG} {us : Nat} {g : Nat → Nat → Int} (hg : GOK g) (H0 : PH) (m t : Int)  (ht : t ≤ 600) : ∀ (n : Nat) (ls : PL) (H : PH) (v : Int), (600 - H 213 2).toNat < n → pnl ls → pget ls 0 = some (2, 213) → pget ls 1 = some (0, m) → pget ls 2 = some (0, v) → pget ls 3 = some (0, t) → WT 0 g H → frm [10] H0 H → zIn v → Tr G us kd_X10_digits 2 (zget kd_X10_digits 16) 16 ls [] H (fun r H' => WT 0 g H' ∧ frm [10] H0 H' ∧ ∃ x, r = some (0, x) ∧ zIn x) := by
  intro n
  induction n with
  | zero => intros; omega
  | succ n ih =>
    intro ls H v hn hnl l0 l1 l2 l3 hW hF hv
    have t1 := rf_213_1 hW
    have t2 := rf_213_2 hW
    refine tr_lab (D := 1) (t := 16) vb_X10_digits_16 _ ve_X10_digits_16 ?_
    simp (maxDischargeDepth := 12) [vb_X10_digits_16, wB, wI, k1, kI, kR, kL, k2, pget, pget_pset, pnl_pset, pnl_cons, pnl_nil, parg, ppush, pcat, zw_lit, zw_m1, zw_m2, zw_m3, zNC_eq, zrow, pup_app, gv_213_0, gv_213_1, gv_213_2, pe, tg_10_0, tg_10_1, tg_10_2, zfit, zisI, sh_590, sh_213, sh_214, hnl, l0, l1, l2, l3]
    repeat' (with_reducible (first | (refine And.intro ?_ ?_) | intro _))
    all_goals try (refine Ca_use (ca_X10_isDigit _ _) (by omega) ?_; rintro _ _ ⟨rfl, rfl⟩; simp (maxDischargeDepth := 12) [wB, wI, k1, kI, kR, kL, k2, pget, pget_pset, pnl_pset, pnl_cons, pnl_nil, parg, ppush, pcat, zw_lit, zw_m1, zw_m2, zw_m3, zNC_eq, zrow, pup_app, gv_213_0, gv_213_1, gv_213_2, pe, tg_10_0, tg_10_1, tg_10_2, zfit, zisI, sh_590, sh_213, sh_214, hnl, l0, l1, l2, l3])
    all_goals repeat' (with_reducible (first | (refine And.intro ?_ ?_) | intro _))
    all_goals try (refine tr_lab (D := 1) (t := 70) vb_X10_digits_70 _ ve_X10_digits_70 ?_; simp (maxDischargeDepth := 12) [vb_X10_digits_70, wB, wI, k1, kI, kR, kL, k2, pget, pget_pset, pnl_pset, pnl_cons, pnl_nil, parg, ppush, pcat, zw_lit, zw_m1, zw_m2, zw_m3, zNC_eq, zrow, pup_app, gv_213_0, gv_213_1, gv_213_2, pe, tg_10_0, tg_10_1, tg_10_2, zfit, zisI, sh_590, sh_213, sh_214, hnl, l0, l1, l2, l3])
    all_goals repeat' (with_reducible (first | (refine And.intro ?_ ?_) | intro _))
    all_goals try (refine ih _ _ (zw (zw (zw (v * 10) + H 214 (H 213 2)) - 48)) ?_ ?_ ?_ ?_ ?_ ?_ ?_ ?_ ?_)
    all_goals try simp (maxDischargeDepth := 12) [pget_pset, pnl_pset, pnl_cons, pnl_nil, pget, hnl, pup_app, l0, l1, l2, l3]
    all_goals (first | omega | assumption | exact zw_in _ | ((repeat (first | assumption | exact frm_refl _ _ | (refine wf_213_2 ?_ (by (first | omega | exact zw_lo _ | exact zw_hi _ | ((simp (disch := omega) only [zw_lit, pup_app]) <;> omega) | ((simp (disch := omega) [zw_lit, pup_app]) <;> omega) | (simp only [zw]; omega))) (by (first | omega | exact zw_lo _ | exact zw_hi _ | ((simp (disch := omega) only [zw_lit, pup_app]) <;> omega) | ((simp (disch := omega) [zw_lit, pup_app]) <;> omega) | (simp only [zw]; omega)))) | (refine ff_213_2 ?_ rfl))); done) |  (first | omega | exact zw_lo _ | exact zw_hi _ | ((simp (disch := omega) only [zw_lit, pup_app]) <;> omega) | ((simp (disch := omega) [zw_lit, pup_app]) <;> omega) | (simp only [zw]; omega)))

set_option maxRecDepth 20000 in
set_option maxHeartbeats 4000000 in
theorem ca_X10_digits {G : zG} {us : Nat} {g : Nat → Nat → Int} (hg : GOK g) (m : Int) (H : PH) (hW : WT 0 g H) : Ca G us 2 100 [(2, 213), (0, m)] H (fun r H' => WT 0 g H' ∧ frm [10] H H' ∧ ∃ x, r = some (0, x) ∧ zIn x) := by
  have t1 := rf_213_1 hW
  have t2 := rf_213_2 hW
  refine ⟨_, _, _, _, _, _, vm_X10_digits, by simp [pcat], ?_⟩
  refine tr_lab (D := 1) (t := 0) vb_X10_digits_0 _ ve_X10_digits_0 ?_
  simp (maxDischargeDepth := 12) [vb_X10_digits_0, wB, wI, k1, kI, kR, kL, k2, pget, pget_pset, pnl_pset, pnl_cons, pnl_nil, parg, ppush, pcat, zw_lit, zw_m1, zw_m2, zw_m3, zNC_eq, zrow, pup_app, gv_213_0, gv_213_1, gv_213_2, pe, tg_10_0, tg_10_1, tg_10_2, zfit, zisI, sh_590, sh_213]
  repeat' (with_reducible (first | (refine And.intro ?_ ?_) | intro _))
  all_goals try ((refine lp_X10_digits_16 hg H m (if zw (H 213 2 + m) < H 213 1 then zw (H 213 2 + m) else H 213 1) ?_ 601 _ _ 0 ?_ ?_ ?_ ?_ ?_ ?_ ?_ ?_ ?_) <;> (try simp (maxDischargeDepth := 12) [pget_pset, pnl_pset, pnl_cons, pnl_nil, pget, pup_app, *]))
  all_goals (first | omega | exact frm_refl _ _ | (split <;> omega) | (constructor <;> omega))














set_option maxRecDepth 20000 in
set_option maxHeartbeats 4000000 in
theorem ca_X4_add {G : zG} {us : Nat} (c d x : Int) (H : PH) (c0 : 0 ≤ c) (c1 : c < 622) (s1 : (zSh c.toNat).1 = 4) (s2 : (zSh c.toNat).2.1 = 4) (d0 : 0 ≤ d) (d1 : d < 622) (s3 : (zSh d.toNat).1 = 16) (s4 : (zSh d.toNat).2.1 = 60) (z2 : zrt c.toNat 2 = none) (g0 : gv H c 0 = d) (g2 : gv H c 2 = H c 2) (g3 : gv (pup H d (H c 2) x) c 2 = H c 2) (r0 : 0 ≤ H c 2) (r1 : H c 2 ≤ 60) : Ca G us 1 50 [(2, c), (0, x)] H (fun r H' => r = none ∧ (H' = H ∨ (H c 2 < 60 ∧ H' = pup (pup H d (H c 2) x) c 2 (H c 2 + 1)))) := by
  refine ⟨_, _, _, _, _, _, vm_X4_add, by simp [pcat], ?_⟩
  refine tr_lab (D := 0) (t := 0) vb_X4_add_0 _ ve_X4_add_0 ?_
  simp (maxDischargeDepth := 12) [vb_X4_add_0, wB, wI, k1, kI, kR, kL, k2, pget, pget_pset, pnl_pset, pnl_cons, pnl_nil, parg, ppush, pcat, zw_lit, zw_m1, zw_m2, zw_m3, zNC_eq, zrow, pup_app, pe, tg_4_0, tg_4_2, zfit, zisI, sh_590, s1, s2, s3, s4, g0, g2, g3, c0, c1, d0, d1, z2]
  repeat' (with_reducible (first | (refine And.intro ?_ ?_) | intro _))
  all_goals try (refine tr_lab (D := 0) (t := 32) vb_X4_add_32 _ ve_X4_add_32 ?_; simp (maxDischargeDepth := 12) [vb_X4_add_32, wB, wI, k1, kI, kR, kL, k2, pget, pget_pset, pnl_pset, pnl_cons, pnl_nil, parg, ppush, pcat, zw_lit, zw_m1, zw_m2, zw_m3, zNC_eq, zrow, pup_app, pe, tg_4_0, tg_4_2, zfit, zisI, sh_590, s1, s2, s3, s4, g0, g2, g3, c0, c1, d0, d1, z2])
  all_goals repeat' (with_reducible (first | (refine And.intro ?_ ?_) | intro _))
  all_goals (first | omega | (simp (disch := omega) only [zw_lit]; first | omega | simp; omega) | skip)




set_option maxRecDepth 20000 in
set_option maxHeartbeats 4000000 in
theorem ca_X8_append {G : zG} {us : Nat} (x c n : Int) (H : PH) (hs : qli (qlushr x 48) = n) (n0 : 0 ≤ n) (n1 : n ≤ 7) : Ca G us 2 75 [(1, x), (0, c)] H (fun r H' => H = H' ∧ r = some (1, qladd (qladd x (qlshl (qil c) (6 * n))) 281474976710656)) := by
  refine ⟨_, _, _, _, _, _, vm_X8_append, by simp [pcat], ?_⟩
  refine tr_lab (D := 1) (t := 0) vb_X8_append_0 _ ve_X8_append_0 ?_
  simp (maxDischargeDepth := 12) [vb_X8_append_0, wB, wI, k1, kI, kR, kL, k2, pget, pget_pset, pnl_pset, pnl_cons, pnl_nil, parg, ppush, pcat, zw_lit, zw_m1, zw_m2, zw_m3, zNC_eq, zrow, pup_app, sh_590, pset, pdrop, List.filter, hs]
  repeat' (with_reducible (first | (refine And.intro ?_ ?_) | intro _))
  all_goals try (refine Ca_use (ca_X8_sizeOf _ _) (by omega) ?_; rintro _ _ ⟨rfl, rfl⟩; simp (maxDischargeDepth := 12) [wB, wI, k1, kI, kR, kL, k2, pget, pget_pset, pnl_pset, pnl_cons, pnl_nil, parg, ppush, pcat, zw_lit, zw_m1, zw_m2, zw_m3, zNC_eq, zrow, pup_app, sh_590, pset, pdrop, List.filter, hs])
  all_goals repeat' (with_reducible (first | (refine And.intro ?_ ?_) | intro _))
  all_goals (first | omega | (simp (disch := omega) only [zw_lit, Int.mul_comm n 6]) | (simp (disch := omega) [zw_lit, Int.mul_comm n 6]) | skip)



set_option maxRecDepth 20000 in
set_option maxHeartbeats 4000000 in
theorem ca_X8_wearAt {G : zG} {us : Nat} (x i s : Int) (H : PH) (hs : q2 (· &&& ·) (qli (qlushr x (6 * i))) 63 = s) (s0 : 0 ≤ s) (s1 : s ≤ 37) (i0 : 0 ≤ i) (i1 : i ≤ 7) : Ca G us 2 79 [(1, x), (0, i)] H (fun r H' => H = H' ∧ r = some (1, qladd x (qlshl (qil (37 - s)) (6 * i)))) := by
  refine ⟨_, _, _, _, _, _, vm_X8_wearAt, by simp [pcat], ?_⟩
  refine tr_lab (D := 1) (t := 0) vb_X8_wearAt_0 _ ve_X8_wearAt_0 ?_
  simp (maxDischargeDepth := 12) [vb_X8_wearAt_0, wB, wI, k1, kI, kR, kL, k2, pget, pget_pset, pnl_pset, pnl_cons, pnl_nil, parg, ppush, pcat, zw_lit, zw_m1, zw_m2, zw_m3, zNC_eq, zrow, pup_app, sh_590, hs]
  repeat' (with_reducible (first | (refine And.intro ?_ ?_) | intro _))
  all_goals try (refine Ca_use (ca_X8_signAt _ _ _ (by omega) (by omega)) (by omega) ?_; rintro _ _ ⟨rfl, rfl⟩; simp (maxDischargeDepth := 12) [wB, wI, k1, kI, kR, kL, k2, pget, pget_pset, pnl_pset, pnl_cons, pnl_nil, parg, ppush, pcat, zw_lit, zw_m1, zw_m2, zw_m3, zNC_eq, zrow, pup_app, sh_590, hs])
  all_goals repeat' (with_reducible (first | (refine And.intro ?_ ?_) | intro _))
  all_goals (first | omega | (simp (disch := omega) only [zw_lit, Int.mul_comm i 6]) | (simp (disch := omega) [zw_lit, Int.mul_comm i 6]) | skip)

