def cc_X4_join : aC := (53, 1, [(0, -2147483648, 2147483647, 1), (0, -2147483648, 2147483647, 1), (0, -2147483648, 2147483647, 1)], some (0, -2147483648, 2147483647, 1), [], 0, [], [], [], [])
set_option maxRecDepth 20000 in
set_option maxHeartbeats 4000000 in
theorem ca_X4_join_42 {G : zG} {us : Nat} (b c : Int) (H : PH) (hb : zIn b) (hc : zIn c) : Ca G us 1 53 [(0, 42), (0, b), (0, c)] H (fun r H' => H = H' ∧ ∃ x, r = some (0, x) ∧ zIn x) := by
  refine ⟨_, _, _, _, _, _, vm_X4_join, by simp [pcat], ?_⟩
  refine tr_lab (D := 0) (t := 0) vb_X4_join_0 _ ve_X4_join_0 ?_
  simp (maxDischargeDepth := 12) [vb_X4_join_0, wB, wI, k1, kI, kR, kL, k2, pget, pget_pset, pnl_pset, pnl_cons, pnl_nil, parg, ppush, pcat, zw_lit, zw_m1, zw_m2, zw_m3, zNC_eq, zrow, pup_app, sh_590, zw_in, q2_in, ptl, Op.lookupswitch.offset, hb, hc]
  repeat' (with_reducible (first | (refine And.intro ?_ ?_) | intro _))
  all_goals try (refine tr_lab (D := 0) (t := 52) vb_X4_join_52 _ ve_X4_join_52 ?_; simp (maxDischargeDepth := 12) [vb_X4_join_52, wB, wI, k1, kI, kR, kL, k2, pget, pget_pset, pnl_pset, pnl_cons, pnl_nil, parg, ppush, pcat, zw_lit, zw_m1, zw_m2, zw_m3, zNC_eq, zrow, pup_app, sh_590, zw_in, q2_in, ptl, Op.lookupswitch.offset, hb, hc])
  all_goals repeat' (with_reducible (first | (refine And.intro ?_ ?_) | intro _))
  all_goals try (refine tr_lab (D := 0) (t := 56) vb_X4_join_56 _ ve_X4_join_56 ?_; simp (maxDischargeDepth := 12) [vb_X4_join_56, wB, wI, k1, kI, kR, kL, k2, pget, pget_pset, pnl_pset, pnl_cons, pnl_nil, parg, ppush, pcat, zw_lit, zw_m1, zw_m2, zw_m3, zNC_eq, zrow, pup_app, sh_590, zw_in, q2_in, ptl, Op.lookupswitch.offset, hb, hc])
  all_goals repeat' (with_reducible (first | (refine And.intro ?_ ?_) | intro _))
  all_goals try (refine tr_lab (D := 0) (t := 60) vb_X4_join_60 _ ve_X4_join_60 ?_; simp (maxDischargeDepth := 12) [vb_X4_join_60, wB, wI, k1, kI, kR, kL, k2, pget, pget_pset, pnl_pset, pnl_cons, pnl_nil, parg, ppush, pcat, zw_lit, zw_m1, zw_m2, zw_m3, zNC_eq, zrow, pup_app, sh_590, zw_in, q2_in, ptl, Op.lookupswitch.offset, hb, hc])
  all_goals repeat' (with_reducible (first | (refine And.intro ?_ ?_) | intro _))
  all_goals try (refine tr_lab (D := 0) (t := 64) vb_X4_join_64 _ ve_X4_join_64 ?_; simp (maxDischargeDepth := 12) [vb_X4_join_64, wB, wI, k1, kI, kR, kL, k2, pget, pget_pset, pnl_pset, pnl_cons, pnl_nil, parg, ppush, pcat, zw_lit, zw_m1, zw_m2, zw_m3, zNC_eq, zrow, pup_app, sh_590, zw_in, q2_in, ptl, Op.lookupswitch.offset, hb, hc])
  all_goals repeat' (with_reducible (first | (refine And.intro ?_ ?_) | intro _))
  all_goals try (refine tr_lab (D := 0) (t := 72) vb_X4_join_72 _ ve_X4_join_72 ?_; simp (maxDischargeDepth := 12) [vb_X4_join_72, wB, wI, k1, kI, kR, kL, k2, pget, pget_pset, pnl_pset, pnl_cons, pnl_nil, parg, ppush, pcat, zw_lit, zw_m1, zw_m2, zw_m3, zNC_eq, zrow, pup_app, sh_590, zw_in, q2_in, ptl, Op.lookupswitch.offset, hb, hc])
  all_goals repeat' (with_reducible (first | (refine And.intro ?_ ?_) | intro _))
  all_goals try (refine tr_lab (D := 0) (t := 75) vb_X4_join_75 _ ve_X4_join_75 ?_; simp (maxDischargeDepth := 12) [vb_X4_join_75, wB, wI, k1, kI, kR, kL, k2, pget, pget_pset, pnl_pset, pnl_cons, pnl_nil, parg, ppush, pcat, zw_lit, zw_m1, zw_m2, zw_m3, zNC_eq, zrow, pup_app, sh_590, zw_in, q2_in, ptl, Op.lookupswitch.offset, hb, hc])
  all_goals repeat' (with_reducible (first | (refine And.intro ?_ ?_) | intro _))
  all_goals try (refine tr_lab (D := 0) (t := 76) vb_X4_join_76 _ ve_X4_join_76 ?_; simp (maxDischargeDepth := 12) [vb_X4_join_76, wB, wI, k1, kI, kR, kL, k2, pget, pget_pset, pnl_pset, pnl_cons, pnl_nil, parg, ppush, pcat, zw_lit, zw_m1, zw_m2, zw_m3, zNC_eq, zrow, pup_app, sh_590, zw_in, q2_in, ptl, Op.lookupswitch.offset, hb, hc])
  all_goals repeat' (with_reducible (first | (refine And.intro ?_ ?_) | intro _))
  all_goals try (refine tr_lab (D := 0) (t := 82) vb_X4_join_82 _ ve_X4_join_82 ?_; simp (maxDischargeDepth := 12) [vb_X4_join_82, wB, wI, k1, kI, kR, kL, k2, pget, pget_pset, pnl_pset, pnl_cons, pnl_nil, parg, ppush, pcat, zw_lit, zw_m1, zw_m2, zw_m3, zNC_eq, zrow, pup_app, sh_590, zw_in, q2_in, ptl, Op.lookupswitch.offset, hb, hc])
  all_goals repeat' (with_reducible (first | (refine And.intro ?_ ?_) | intro _))
  all_goals (first | (split <;> assumption) | exact (q2_in _ _ _) | exact (zw_in _) | (constructor <;> omega) | (unfold zIn; omega) | trivial)
set_option maxRecDepth 20000 in
set_option maxHeartbeats 4000000 in
theorem ca_X4_join_43 {G : zG} {us : Nat} (b c : Int) (H : PH) (hb : zIn b) (hc : zIn c) : Ca G us 1 53 [(0, 43), (0, b), (0, c)] H (fun r H' => H = H' ∧ ∃ x, r = some (0, x) ∧ zIn x) := by
  refine ⟨_, _, _, _, _, _, vm_X4_join, by simp [pcat], ?_⟩
  refine tr_lab (D := 0) (t := 0) vb_X4_join_0 _ ve_X4_join_0 ?_
  simp (maxDischargeDepth := 12) [vb_X4_join_0, wB, wI, k1, kI, kR, kL, k2, pget, pget_pset, pnl_pset, pnl_cons, pnl_nil, parg, ppush, pcat, zw_lit, zw_m1, zw_m2, zw_m3, zNC_eq, zrow, pup_app, sh_590, zw_in, q2_in, ptl, Op.lookupswitch.offset, hb, hc]
  repeat' (with_reducible (first | (refine And.intro ?_ ?_) | intro _))
  all_goals try (refine tr_lab (D := 0) (t := 52) vb_X4_join_52 _ ve_X4_join_52 ?_; simp (maxDischargeDepth := 12) [vb_X4_join_52, wB, wI, k1, kI, kR, kL, k2, pget, pget_pset, pnl_pset, pnl_cons, pnl_nil, parg, ppush, pcat, zw_lit, zw_m1, zw_m2, zw_m3, zNC_eq, zrow, pup_app, sh_590, zw_in, q2_in, ptl, Op.lookupswitch.offset, hb, hc])
  all_goals repeat' (with_reducible (first | (refine And.intro ?_ ?_) | intro _))
  all_goals try (refine tr_lab (D := 0) (t := 56) vb_X4_join_56 _ ve_X4_join_56 ?_; simp (maxDischargeDepth := 12) [vb_X4_join_56, wB, wI, k1, kI, kR, kL, k2, pget, pget_pset, pnl_pset, pnl_cons, pnl_nil, parg, ppush, pcat, zw_lit, zw_m1, zw_m2, zw_m3, zNC_eq, zrow, pup_app, sh_590, zw_in, q2_in, ptl, Op.lookupswitch.offset, hb, hc])
  all_goals repeat' (with_reducible (first | (refine And.intro ?_ ?_) | intro _))
  all_goals try (refine tr_lab (D := 0) (t := 60) vb_X4_join_60 _ ve_X4_join_60 ?_; simp (maxDischargeDepth := 12) [vb_X4_join_60, wB, wI, k1, kI, kR, kL, k2, pget, pget_pset, pnl_pset, pnl_cons, pnl_nil, parg, ppush, pcat, zw_lit, zw_m1, zw_m2, zw_m3, zNC_eq, zrow, pup_app, sh_590, zw_in, q2_in, ptl, Op.lookupswitch.offset, hb, hc])
  all_goals repeat' (with_reducible (first | (refine And.intro ?_ ?_) | intro _))
  all_goals try (refine tr_lab (D := 0) (t := 64) vb_X4_join_64 _ ve_X4_join_64 ?_; simp (maxDischargeDepth := 12) [vb_X4_join_64, wB, wI, k1, kI, kR, kL, k2, pget, pget_pset, pnl_pset, pnl_cons, pnl_nil, parg, ppush, pcat, zw_lit, zw_m1, zw_m2, zw_m3, zNC_eq, zrow, pup_app, sh_590, zw_in, q2_in, ptl, Op.lookupswitch.offset, hb, hc])
  all_goals repeat' (with_reducible (first | (refine And.intro ?_ ?_) | intro _))
  all_goals try (refine tr_lab (D := 0) (t := 72) vb_X4_join_72 _ ve_X4_join_72 ?_; simp (maxDischargeDepth := 12) [vb_X4_join_72, wB, wI, k1, kI, kR, kL, k2, pget, pget_pset, pnl_pset, pnl_cons, pnl_nil, parg, ppush, pcat, zw_lit, zw_m1, zw_m2, zw_m3, zNC_eq, zrow, pup_app, sh_590, zw_in, q2_in, ptl, Op.lookupswitch.offset, hb, hc])
  all_goals repeat' (with_reducible (first | (refine And.intro ?_ ?_) | intro _))
  all_goals try (refine tr_lab (D := 0) (t := 75) vb_X4_join_75 _ ve_X4_join_75 ?_; simp (maxDischargeDepth := 12) [vb_X4_join_75, wB, wI, k1, kI, kR, kL, k2, pget, pget_pset, pnl_pset, pnl_cons, pnl_nil, parg, ppush, pcat, zw_lit, zw_m1, zw_m2, zw_m3, zNC_eq, zrow, pup_app, sh_590, zw_in, q2_in, ptl, Op.lookupswitch.offset, hb, hc])
  all_goals repeat' (with_reducible (first | (refine And.intro ?_ ?_) | intro _))
  all_goals try (refine tr_lab (D := 0) (t := 76) vb_X4_join_76 _ ve_X4_join_76 ?_; simp (maxDischargeDepth := 12) [vb_X4_join_76, wB, wI, k1, kI, kR, kL, k2, pget, pget_pset, pnl_pset, pnl_cons, pnl_nil, parg, ppush, pcat, zw_lit, zw_m1, zw_m2, zw_m3, zNC_eq, zrow, pup_app, sh_590, zw_in, q2_in, ptl, Op.lookupswitch.offset, hb, hc])
  all_goals repeat' (with_reducible (first | (refine And.intro ?_ ?_) | intro _))
  all_goals try (refine tr_lab (D := 0) (t := 82) vb_X4_join_82 _ ve_X4_join_82 ?_; simp (maxDischargeDepth := 12) [vb_X4_join_82, wB, wI, k1, kI, kR, kL, k2, pget, pget_pset, pnl_pset, pnl_cons, pnl_nil, parg, ppush, pcat, zw_lit, zw_m1, zw_m2, zw_m3, zNC_eq, zrow, pup_app, sh_590, zw_in, q2_in, ptl, Op.lookupswitch.offset, hb, hc])
  all_goals repeat' (with_reducible (first | (refine And.intro ?_ ?_) | intro _))
  all_goals (first | (split <;> assumption) | exact (q2_in _ _ _) | exact (zw_in _) | (constructor <;> omega) | (unfold zIn; omega) | trivial)
set_option maxRecDepth 20000 in
set_option maxHeartbeats 4000000 in
theorem ca_X4_join_45 {G : zG} {us : Nat} (b c : Int) (H : PH) (hb : zIn b) (hc : zIn c) : Ca G us 1 53 [(0, 45), (0, b), (0, c)] H (fun r H' => H = H' ∧ ∃ x, r = some (0, x) ∧ zIn x) := by
  refine ⟨_, _, _, _, _, _, vm_X4_join, by simp [pcat], ?_⟩
  refine tr_lab (D := 0) (t := 0) vb_X4_join_0 _ ve_X4_join_0 ?_
  simp (maxDischargeDepth := 12) [vb_X4_join_0, wB, wI, k1, kI, kR, kL, k2, pget, pget_pset, pnl_pset, pnl_cons, pnl_nil, parg, ppush, pcat, zw_lit, zw_m1, zw_m2, zw_m3, zNC_eq, zrow, pup_app, sh_590, zw_in, q2_in, ptl, Op.lookupswitch.offset, hb, hc]
  repeat' (with_reducible (first | (refine And.intro ?_ ?_) | intro _))
  all_goals try (refine tr_lab (D := 0) (t := 52) vb_X4_join_52 _ ve_X4_join_52 ?_; simp (maxDischargeDepth := 12) [vb_X4_join_52, wB, wI, k1, kI, kR, kL, k2, pget, pget_pset, pnl_pset, pnl_cons, pnl_nil, parg, ppush, pcat, zw_lit, zw_m1, zw_m2, zw_m3, zNC_eq, zrow, pup_app, sh_590, zw_in, q2_in, ptl, Op.lookupswitch.offset, hb, hc])
  all_goals repeat' (with_reducible (first | (refine And.intro ?_ ?_) | intro _))
  all_goals try (refine tr_lab (D := 0) (t := 56) vb_X4_join_56 _ ve_X4_join_56 ?_; simp (maxDischargeDepth := 12) [vb_X4_join_56, wB, wI, k1, kI, kR, kL, k2, pget, pget_pset, pnl_pset, pnl_cons, pnl_nil, parg, ppush, pcat, zw_lit, zw_m1, zw_m2, zw_m3, zNC_eq, zrow, pup_app, sh_590, zw_in, q2_in, ptl, Op.lookupswitch.offset, hb, hc])
  all_goals repeat' (with_reducible (first | (refine And.intro ?_ ?_) | intro _))
  all_goals try (refine tr_lab (D := 0) (t := 60) vb_X4_join_60 _ ve_X4_join_60 ?_; simp (maxDischargeDepth := 12) [vb_X4_join_60, wB, wI, k1, kI, kR, kL, k2, pget, pget_pset, pnl_pset, pnl_cons, pnl_nil, parg, ppush, pcat, zw_lit, zw_m1, zw_m2, zw_m3, zNC_eq, zrow, pup_app, sh_590, zw_in, q2_in, ptl, Op.lookupswitch.offset, hb, hc])
  all_goals repeat' (with_reducible (first | (refine And.intro ?_ ?_) | intro _))
  all_goals try (refine tr_lab (D := 0) (t := 64) vb_X4_join_64 _ ve_X4_join_64 ?_; simp (maxDischargeDepth := 12) [vb_X4_join_64, wB, wI, k1, kI, kR, kL, k2, pget, pget_pset, pnl_pset, pnl_cons, pnl_nil, parg, ppush, pcat, zw_lit, zw_m1, zw_m2, zw_m3, zNC_eq, zrow, pup_app, sh_590, zw_in, q2_in, ptl, Op.lookupswitch.offset, hb, hc])
  all_goals repeat' (with_reducible (first | (refine And.intro ?_ ?_) | intro _))
  all_goals try (refine tr_lab (D := 0) (t := 72) vb_X4_join_72 _ ve_X4_join_72 ?_; simp (maxDischargeDepth := 12) [vb_X4_join_72, wB, wI, k1, kI, kR, kL, k2, pget, pget_pset, pnl_pset, pnl_cons, pnl_nil, parg, ppush, pcat, zw_lit, zw_m1, zw_m2, zw_m3, zNC_eq, zrow, pup_app, sh_590, zw_in, q2_in, ptl, Op.lookupswitch.offset, hb, hc])
  all_goals repeat' (with_reducible (first | (refine And.intro ?_ ?_) | intro _))
  all_goals try (refine tr_lab (D := 0) (t := 75) vb_X4_join_75 _ ve_X4_join_75 ?_; simp (maxDischargeDepth := 12) [vb_X4_join_75, wB, wI, k1, kI, kR, kL, k2, pget, pget_pset, pnl_pset, pnl_cons, pnl_nil, parg, ppush, pcat, zw_lit, zw_m1, zw_m2, zw_m3, zNC_eq, zrow, pup_app, sh_590, zw_in, q2_in, ptl, Op.lookupswitch.offset, hb, hc])
  all_goals repeat' (with_reducible (first | (refine And.intro ?_ ?_) | intro _))
  all_goals try (refine tr_lab (D := 0) (t := 76) vb_X4_join_76 _ ve_X4_join_76 ?_; simp (maxDischargeDepth := 12) [vb_X4_join_76, wB, wI, k1, kI, kR, kL, k2, pget, pget_pset, pnl_pset, pnl_cons, pnl_nil, parg, ppush, pcat, zw_lit, zw_m1, zw_m2, zw_m3, zNC_eq, zrow, pup_app, sh_590, zw_in, q2_in, ptl, Op.lookupswitch.offset, hb, hc])
  all_goals repeat' (with_reducible (first | (refine And.intro ?_ ?_) | intro _))
  all_goals try (refine tr_lab (D := 0) (t := 82) vb_X4_join_82 _ ve_X4_join_82 ?_; simp (maxDischargeDepth := 12) [vb_X4_join_82, wB, wI, k1, kI, kR, kL, k2, pget, pget_pset, pnl_pset, pnl_cons, pnl_nil, parg, ppush, pcat, zw_lit, zw_m1, zw_m2, zw_m3, zNC_eq, zrow, pup_app, sh_590, zw_in, q2_in, ptl, Op.lookupswitch.offset, hb, hc])
  all_goals repeat' (with_reducible (first | (refine And.intro ?_ ?_) | intro _))
  all_goals (first | (split <;> assumption) | exact (q2_in _ _ _) | exact (zw_in _) | (constructor <;> omega) | (unfold zIn; omega) | trivial)
set_option maxRecDepth 20000 in
set_option maxHeartbeats 4000000 in
theorem ca_X4_join_47 {G : zG} {us : Nat} (b c : Int) (H : PH) (hb : zIn b) (hc : zIn c) : Ca G us 1 53 [(0, 47), (0, b), (0, c)] H (fun r H' => H = H' ∧ ∃ x, r = some (0, x) ∧ zIn x) := by
  refine ⟨_, _, _, _, _, _, vm_X4_join, by simp [pcat], ?_⟩
  refine tr_lab (D := 0) (t := 0) vb_X4_join_0 _ ve_X4_join_0 ?_
  simp (maxDischargeDepth := 12) [vb_X4_join_0, wB, wI, k1, kI, kR, kL, k2, pget, pget_pset, pnl_pset, pnl_cons, pnl_nil, parg, ppush, pcat, zw_lit, zw_m1, zw_m2, zw_m3, zNC_eq, zrow, pup_app, sh_590, zw_in, q2_in, ptl, Op.lookupswitch.offset, hb, hc]
  repeat' (with_reducible (first | (refine And.intro ?_ ?_) | intro _))
  all_goals try (refine tr_lab (D := 0) (t := 52) vb_X4_join_52 _ ve_X4_join_52 ?_; simp (maxDischargeDepth := 12) [vb_X4_join_52, wB, wI, k1, kI, kR, kL, k2, pget, pget_pset, pnl_pset, pnl_cons, pnl_nil, parg, ppush, pcat, zw_lit, zw_m1, zw_m2, zw_m3, zNC_eq, zrow, pup_app, sh_590, zw_in, q2_in, ptl, Op.lookupswitch.offset, hb, hc])
  all_goals repeat' (with_reducible (first | (refine And.intro ?_ ?_) | intro _))
  all_goals try (refine tr_lab (D := 0) (t := 56) vb_X4_join_56 _ ve_X4_join_56 ?_; simp (maxDischargeDepth := 12) [vb_X4_join_56, wB, wI, k1, kI, kR, kL, k2, pget, pget_pset, pnl_pset, pnl_cons, pnl_nil, parg, ppush, pcat, zw_lit, zw_m1, zw_m2, zw_m3, zNC_eq, zrow, pup_app, sh_590, zw_in, q2_in, ptl, Op.lookupswitch.offset, hb, hc])
  all_goals repeat' (with_reducible (first | (refine And.intro ?_ ?_) | intro _))
  all_goals try (refine tr_lab (D := 0) (t := 60) vb_X4_join_60 _ ve_X4_join_60 ?_; simp (maxDischargeDepth := 12) [vb_X4_join_60, wB, wI, k1, kI, kR, kL, k2, pget, pget_pset, pnl_pset, pnl_cons, pnl_nil, parg, ppush, pcat, zw_lit, zw_m1, zw_m2, zw_m3, zNC_eq, zrow, pup_app, sh_590, zw_in, q2_in, ptl, Op.lookupswitch.offset, hb, hc])
  all_goals repeat' (with_reducible (first | (refine And.intro ?_ ?_) | intro _))
  all_goals try (refine tr_lab (D := 0) (t := 64) vb_X4_join_64 _ ve_X4_join_64 ?_; simp (maxDischargeDepth := 12) [vb_X4_join_64, wB, wI, k1, kI, kR, kL, k2, pget, pget_pset, pnl_pset, pnl_cons, pnl_nil, parg, ppush, pcat, zw_lit, zw_m1, zw_m2, zw_m3, zNC_eq, zrow, pup_app, sh_590, zw_in, q2_in, ptl, Op.lookupswitch.offset, hb, hc])
  all_goals repeat' (with_reducible (first | (refine And.intro ?_ ?_) | intro _))
  all_goals try (refine tr_lab (D := 0) (t := 72) vb_X4_join_72 _ ve_X4_join_72 ?_; simp (maxDischargeDepth := 12) [vb_X4_join_72, wB, wI, k1, kI, kR, kL, k2, pget, pget_pset, pnl_pset, pnl_cons, pnl_nil, parg, ppush, pcat, zw_lit, zw_m1, zw_m2, zw_m3, zNC_eq, zrow, pup_app, sh_590, zw_in, q2_in, ptl, Op.lookupswitch.offset, hb, hc])
  all_goals repeat' (with_reducible (first | (refine And.intro ?_ ?_) | intro _))
  all_goals try (refine tr_lab (D := 0) (t := 75) vb_X4_join_75 _ ve_X4_join_75 ?_; simp (maxDischargeDepth := 12) [vb_X4_join_75, wB, wI, k1, kI, kR, kL, k2, pget, pget_pset, pnl_pset, pnl_cons, pnl_nil, parg, ppush, pcat, zw_lit, zw_m1, zw_m2, zw_m3, zNC_eq, zrow, pup_app, sh_590, zw_in, q2_in, ptl, Op.lookupswitch.offset, hb, hc])
  all_goals repeat' (with_reducible (first | (refine And.intro ?_ ?_) | intro _))
  all_goals try (refine tr_lab (D := 0) (t := 76) vb_X4_join_76 _ ve_X4_join_76 ?_; simp (maxDischargeDepth := 12) [vb_X4_join_76, wB, wI, k1, kI, kR, kL, k2, pget, pget_pset, pnl_pset, pnl_cons, pnl_nil, parg, ppush, pcat, zw_lit, zw_m1, zw_m2, zw_m3, zNC_eq, zrow, pup_app, sh_590, zw_in, q2_in, ptl, Op.lookupswitch.offset, hb, hc])
  all_goals repeat' (with_reducible (first | (refine And.intro ?_ ?_) | intro _))
  all_goals try (refine tr_lab (D := 0) (t := 82) vb_X4_join_82 _ ve_X4_join_82 ?_; simp (maxDischargeDepth := 12) [vb_X4_join_82, wB, wI, k1, kI, kR, kL, k2, pget, pget_pset, pnl_pset, pnl_cons, pnl_nil, parg, ppush, pcat, zw_lit, zw_m1, zw_m2, zw_m3, zNC_eq, zrow, pup_app, sh_590, zw_in, q2_in, ptl, Op.lookupswitch.offset, hb, hc])
  all_goals repeat' (with_reducible (first | (refine And.intro ?_ ?_) | intro _))
  all_goals (first | (split <;> assumption) | exact (q2_in _ _ _) | exact (zw_in _) | (constructor <;> omega) | (unfold zIn; omega) | trivial)
set_option maxRecDepth 20000 in
set_option maxHeartbeats 4000000 in
theorem ca_X4_join_60 {G : zG} {us : Nat} (b c : Int) (H : PH) (hb : zIn b) (hc : zIn c) : Ca G us 1 53 [(0, 60), (0, b), (0, c)] H (fun r H' => H = H' ∧ ∃ x, r = some (0, x) ∧ zIn x) := by
  refine ⟨_, _, _, _, _, _, vm_X4_join, by simp [pcat], ?_⟩
  refine tr_lab (D := 0) (t := 0) vb_X4_join_0 _ ve_X4_join_0 ?_
  simp (maxDischargeDepth := 12) [vb_X4_join_0, wB, wI, k1, kI, kR, kL, k2, pget, pget_pset, pnl_pset, pnl_cons, pnl_nil, parg, ppush, pcat, zw_lit, zw_m1, zw_m2, zw_m3, zNC_eq, zrow, pup_app, sh_590, zw_in, q2_in, ptl, Op.lookupswitch.offset, hb, hc]
  repeat' (with_reducible (first | (refine And.intro ?_ ?_) | intro _))
  all_goals try (refine tr_lab (D := 0) (t := 52) vb_X4_join_52 _ ve_X4_join_52 ?_; simp (maxDischargeDepth := 12) [vb_X4_join_52, wB, wI, k1, kI, kR, kL, k2, pget, pget_pset, pnl_pset, pnl_cons, pnl_nil, parg, ppush, pcat, zw_lit, zw_m1, zw_m2, zw_m3, zNC_eq, zrow, pup_app, sh_590, zw_in, q2_in, ptl, Op.lookupswitch.offset, hb, hc])
  all_goals repeat' (with_reducible (first | (refine And.intro ?_ ?_) | intro _))
  all_goals try (refine tr_lab (D := 0) (t := 56) vb_X4_join_56 _ ve_X4_join_56 ?_; simp (maxDischargeDepth := 12) [vb_X4_join_56, wB, wI, k1, kI, kR, kL, k2, pget, pget_pset, pnl_pset, pnl_cons, pnl_nil, parg, ppush, pcat, zw_lit, zw_m1, zw_m2, zw_m3, zNC_eq, zrow, pup_app, sh_590, zw_in, q2_in, ptl, Op.lookupswitch.offset, hb, hc])
  all_goals repeat' (with_reducible (first | (refine And.intro ?_ ?_) | intro _))
  all_goals try (refine tr_lab (D := 0) (t := 60) vb_X4_join_60 _ ve_X4_join_60 ?_; simp (maxDischargeDepth := 12) [vb_X4_join_60, wB, wI, k1, kI, kR, kL, k2, pget, pget_pset, pnl_pset, pnl_cons, pnl_nil, parg, ppush, pcat, zw_lit, zw_m1, zw_m2, zw_m3, zNC_eq, zrow, pup_app, sh_590, zw_in, q2_in, ptl, Op.lookupswitch.offset, hb, hc])
  all_goals repeat' (with_reducible (first | (refine And.intro ?_ ?_) | intro _))
  all_goals try (refine tr_lab (D := 0) (t := 64) vb_X4_join_64 _ ve_X4_join_64 ?_; simp (maxDischargeDepth := 12) [vb_X4_join_64, wB, wI, k1, kI, kR, kL, k2, pget, pget_pset, pnl_pset, pnl_cons, pnl_nil, parg, ppush, pcat, zw_lit, zw_m1, zw_m2, zw_m3, zNC_eq, zrow, pup_app, sh_590, zw_in, q2_in, ptl, Op.lookupswitch.offset, hb, hc])
  all_goals repeat' (with_reducible (first | (refine And.intro ?_ ?_) | intro _))
  all_goals try (refine tr_lab (D := 0) (t := 72) vb_X4_join_72 _ ve_X4_join_72 ?_; simp (maxDischargeDepth := 12) [vb_X4_join_72, wB, wI, k1, kI, kR, kL, k2, pget, pget_pset, pnl_pset, pnl_cons, pnl_nil, parg, ppush, pcat, zw_lit, zw_m1, zw_m2, zw_m3, zNC_eq, zrow, pup_app, sh_590, zw_in, q2_in, ptl, Op.lookupswitch.offset, hb, hc])
  all_goals repeat' (with_reducible (first | (refine And.intro ?_ ?_) | intro _))
  all_goals try (refine tr_lab (D := 0) (t := 75) vb_X4_join_75 _ ve_X4_join_75 ?_; simp (maxDischargeDepth := 12) [vb_X4_join_75, wB, wI, k1, kI, kR, kL, k2, pget, pget_pset, pnl_pset, pnl_cons, pnl_nil, parg, ppush, pcat, zw_lit, zw_m1, zw_m2, zw_m3, zNC_eq, zrow, pup_app, sh_590, zw_in, q2_in, ptl, Op.lookupswitch.offset, hb, hc])
  all_goals repeat' (with_reducible (first | (refine And.intro ?_ ?_) | intro _))
  all_goals try (refine tr_lab (D := 0) (t := 76) vb_X4_join_76 _ ve_X4_join_76 ?_; simp (maxDischargeDepth := 12) [vb_X4_join_76, wB, wI, k1, kI, kR, kL, k2, pget, pget_pset, pnl_pset, pnl_cons, pnl_nil, parg, ppush, pcat, zw_lit, zw_m1, zw_m2, zw_m3, zNC_eq, zrow, pup_app, sh_590, zw_in, q2_in, ptl, Op.lookupswitch.offset, hb, hc])
  all_goals repeat' (with_reducible (first | (refine And.intro ?_ ?_) | intro _))
  all_goals try (refine tr_lab (D := 0) (t := 82) vb_X4_join_82 _ ve_X4_join_82 ?_; simp (maxDischargeDepth := 12) [vb_X4_join_82, wB, wI, k1, kI, kR, kL, k2, pget, pget_pset, pnl_pset, pnl_cons, pnl_nil, parg, ppush, pcat, zw_lit, zw_m1, zw_m2, zw_m3, zNC_eq, zrow, pup_app, sh_590, zw_in, q2_in, ptl, Op.lookupswitch.offset, hb, hc])
  all_goals repeat' (with_reducible (first | (refine And.intro ?_ ?_) | intro _))
  all_goals (first | (split <;> assumption) | exact (q2_in _ _ _) | exact (zw_in _) | (constructor <;> omega) | (unfold zIn; omega) | trivial)
set_option maxRecDepth 20000 in
set_option maxHeartbeats 4000000 in
theorem ca_X4_join_d {G : zG} {us : Nat} (a b c : Int) (H : PH) (hb : zIn b) (hc : zIn c) (h42 : ¬ a = 42) (h43 : ¬ a = 43) (h45 : ¬ a = 45) (h47 : ¬ a = 47) (h60 : ¬ a = 60) : Ca G us 1 53 [(0, a), (0, b), (0, c)] H (fun r H' => H = H' ∧ ∃ x, r = some (0, x) ∧ zIn x) := by
  have g42 : ¬ (42 : Int) = a := fun q => h42 q.symm
  have g43 : ¬ (43 : Int) = a := fun q => h43 q.symm
  have g45 : ¬ (45 : Int) = a := fun q => h45 q.symm
  have g47 : ¬ (47 : Int) = a := fun q => h47 q.symm
  have g60 : ¬ (60 : Int) = a := fun q => h60 q.symm
  refine ⟨_, _, _, _, _, _, vm_X4_join, by simp [pcat], ?_⟩
  refine tr_lab (D := 0) (t := 0) vb_X4_join_0 _ ve_X4_join_0 ?_
  simp (maxDischargeDepth := 12) [vb_X4_join_0, wB, wI, k1, kI, kR, kL, k2, pget, pget_pset, pnl_pset, pnl_cons, pnl_nil, parg, ppush, pcat, zw_lit, zw_m1, zw_m2, zw_m3, zNC_eq, zrow, pup_app, sh_590, zw_in, q2_in, ptl, Op.lookupswitch.offset, hb, hc, h42, h43, h45, h47, h60, g42, g43, g45, g47, g60]
  repeat' (with_reducible (first | (refine And.intro ?_ ?_) | intro _))
  all_goals try (refine tr_lab (D := 0) (t := 52) vb_X4_join_52 _ ve_X4_join_52 ?_; simp (maxDischargeDepth := 12) [vb_X4_join_52, wB, wI, k1, kI, kR, kL, k2, pget, pget_pset, pnl_pset, pnl_cons, pnl_nil, parg, ppush, pcat, zw_lit, zw_m1, zw_m2, zw_m3, zNC_eq, zrow, pup_app, sh_590, zw_in, q2_in, ptl, Op.lookupswitch.offset, hb, hc, h42, h43, h45, h47, h60, g42, g43, g45, g47, g60])
  all_goals repeat' (with_reducible (first | (refine And.intro ?_ ?_) | intro _))
  all_goals try (refine tr_lab (D := 0) (t := 56) vb_X4_join_56 _ ve_X4_join_56 ?_; simp (maxDischargeDepth := 12) [vb_X4_join_56, wB, wI, k1, kI, kR, kL, k2, pget, pget_pset, pnl_pset, pnl_cons, pnl_nil, parg, ppush, pcat, zw_lit, zw_m1, zw_m2, zw_m3, zNC_eq, zrow, pup_app, sh_590, zw_in, q2_in, ptl, Op.lookupswitch.offset, hb, hc, h42, h43, h45, h47, h60, g42, g43, g45, g47, g60])
  all_goals repeat' (with_reducible (first | (refine And.intro ?_ ?_) | intro _))
  all_goals try (refine tr_lab (D := 0) (t := 60) vb_X4_join_60 _ ve_X4_join_60 ?_; simp (maxDischargeDepth := 12) [vb_X4_join_60, wB, wI, k1, kI, kR, kL, k2, pget, pget_pset, pnl_pset, pnl_cons, pnl_nil, parg, ppush, pcat, zw_lit, zw_m1, zw_m2, zw_m3, zNC_eq, zrow, pup_app, sh_590, zw_in, q2_in, ptl, Op.lookupswitch.offset, hb, hc, h42, h43, h45, h47, h60, g42, g43, g45, g47, g60])
  all_goals repeat' (with_reducible (first | (refine And.intro ?_ ?_) | intro _))
  all_goals try (refine tr_lab (D := 0) (t := 64) vb_X4_join_64 _ ve_X4_join_64 ?_; simp (maxDischargeDepth := 12) [vb_X4_join_64, wB, wI, k1, kI, kR, kL, k2, pget, pget_pset, pnl_pset, pnl_cons, pnl_nil, parg, ppush, pcat, zw_lit, zw_m1, zw_m2, zw_m3, zNC_eq, zrow, pup_app, sh_590, zw_in, q2_in, ptl, Op.lookupswitch.offset, hb, hc, h42, h43, h45, h47, h60, g42, g43, g45, g47, g60])
  all_goals repeat' (with_reducible (first | (refine And.intro ?_ ?_) | intro _))
  all_goals try (refine tr_lab (D := 0) (t := 72) vb_X4_join_72 _ ve_X4_join_72 ?_; simp (maxDischargeDepth := 12) [vb_X4_join_72, wB, wI, k1, kI, kR, kL, k2, pget, pget_pset, pnl_pset, pnl_cons, pnl_nil, parg, ppush, pcat, zw_lit, zw_m1, zw_m2, zw_m3, zNC_eq, zrow, pup_app, sh_590, zw_in, q2_in, ptl, Op.lookupswitch.offset, hb, hc, h42, h43, h45, h47, h60, g42, g43, g45, g47, g60])
  all_goals repeat' (with_reducible (first | (refine And.intro ?_ ?_) | intro _))
  all_goals try (refine tr_lab (D := 0) (t := 75) vb_X4_join_75 _ ve_X4_join_75 ?_; simp (maxDischargeDepth := 12) [vb_X4_join_75, wB, wI, k1, kI, kR, kL, k2, pget, pget_pset, pnl_pset, pnl_cons, pnl_nil, parg, ppush, pcat, zw_lit, zw_m1, zw_m2, zw_m3, zNC_eq, zrow, pup_app, sh_590, zw_in, q2_in, ptl, Op.lookupswitch.offset, hb, hc, h42, h43, h45, h47, h60, g42, g43, g45, g47, g60])
  all_goals repeat' (with_reducible (first | (refine And.intro ?_ ?_) | intro _))
  all_goals try (refine tr_lab (D := 0) (t := 76) vb_X4_join_76 _ ve_X4_join_76 ?_; simp (maxDischargeDepth := 12) [vb_X4_join_76, wB, wI, k1, kI, kR, kL, k2, pget, pget_pset, pnl_pset, pnl_cons, pnl_nil, parg, ppush, pcat, zw_lit, zw_m1, zw_m2, zw_m3, zNC_eq, zrow, pup_app, sh_590, zw_in, q2_in, ptl, Op.lookupswitch.offset, hb, hc, h42, h43, h45, h47, h60, g42, g43, g45, g47, g60])
  all_goals repeat' (with_reducible (first | (refine And.intro ?_ ?_) | intro _))
  all_goals try (refine tr_lab (D := 0) (t := 82) vb_X4_join_82 _ ve_X4_join_82 ?_; simp (maxDischargeDepth := 12) [vb_X4_join_82, wB, wI, k1, kI, kR, kL, k2, pget, pget_pset, pnl_pset, pnl_cons, pnl_nil, parg, ppush, pcat, zw_lit, zw_m1, zw_m2, zw_m3, zNC_eq, zrow, pup_app, sh_590, zw_in, q2_in, ptl, Op.lookupswitch.offset, hb, hc, h42, h43, h45, h47, h60, g42, g43, g45, g47, g60])
  all_goals repeat' (with_reducible (first | (refine And.intro ?_ ?_) | intro _))
  all_goals (first | (split <;> assumption) | exact (q2_in _ _ _) | exact (zw_in _) | (constructor <;> omega) | (unfold zIn; omega) | trivial)
theorem ca_X4_join {G : zG} {us : Nat} (a b c : Int) (H : PH) (hb : zIn b) (hc : zIn c) : Ca G us 1 53 [(0, a), (0, b), (0, c)] H (fun r H' => H = H' ∧ ∃ x, r = some (0, x) ∧ zIn x) := by
  by_cases h42 : a = 42
  · subst h42
    exact ca_X4_join_42 b c H hb hc
  by_cases h43 : a = 43
  · subst h43
    exact ca_X4_join_43 b c H hb hc
  by_cases h45 : a = 45
  · subst h45
    exact ca_X4_join_45 b c H hb hc
  by_cases h47 : a = 47
  · subst h47
    exact ca_X4_join_47 b c H hb hc
  by_cases h60 : a = 60
  · subst h60
    exact ca_X4_join_60 b c H hb hc
  exact ca_X4_join_d a b c H hb hc h42 h43 h45 h47 h60

theorem ct_X4_join : CtOK cc_X4_join := by
  intro G us g H as hg hW ha hp
  obtain ⟨p0, p1, p2, rfl, A0, A1, A2⟩ := aargs3 ha
  obtain ⟨a, rfl, a1, a2, _⟩ := arg_int A0
  obtain ⟨b, rfl, b1, b2, _⟩ := arg_int A1
  obtain ⟨c, rfl, c1, c2, _⟩ := arg_int A2
  refine Ca_use (ca_X4_join a b c H ⟨b1, by omega⟩ ⟨c1, by omega⟩) (Nat.le_refl _) ?_
  rintro r H' ⟨rfl, x, rfl, hx⟩
  exact fin_plain hW (aval_top hx) (frm_refl _ _)
def cc_X12_joined : aC := (190, 1, [(0, -2147483648, 2147483647, 1), (0, -2147483648, 2147483647, 1), (0, -2147483648, 2147483647, 1)], some (0, -2147483648, 2147483647, 1), [], 0, [], [], [], [])
set_option maxRecDepth 20000 in
set_option maxHeartbeats 4000000 in
theorem ca_X12_joined_42 {G : zG} {us : Nat} (b c : Int) (H : PH) (hb : zIn b) (hc : zIn c) : Ca G us 1 190 [(0, 42), (0, b), (0, c)] H (fun r H' => H = H' ∧ ∃ x, r = some (0, x) ∧ zIn x) := by
  refine ⟨_, _, _, _, _, _, vm_X12_joined, by simp [pcat], ?_⟩
  refine tr_lab (D := 0) (t := 0) vb_X12_joined_0 _ ve_X12_joined_0 ?_
  simp (maxDischargeDepth := 12) [vb_X12_joined_0, wB, wI, k1, kI, kR, kL, k2, pget, pget_pset, pnl_pset, pnl_cons, pnl_nil, parg, ppush, pcat, zw_lit, zw_m1, zw_m2, zw_m3, zNC_eq, zrow, pup_app, sh_590, zw_in, q2_in, ptl, Op.lookupswitch.offset, hb, hc]
  repeat' (with_reducible (first | (refine And.intro ?_ ?_) | intro _))
  all_goals try (refine tr_lab (D := 0) (t := 52) vb_X12_joined_52 _ ve_X12_joined_52 ?_; simp (maxDischargeDepth := 12) [vb_X12_joined_52, wB, wI, k1, kI, kR, kL, k2, pget, pget_pset, pnl_pset, pnl_cons, pnl_nil, parg, ppush, pcat, zw_lit, zw_m1, zw_m2, zw_m3, zNC_eq, zrow, pup_app, sh_590, zw_in, q2_in, ptl, Op.lookupswitch.offset, hb, hc])
  all_goals repeat' (with_reducible (first | (refine And.intro ?_ ?_) | intro _))
  all_goals try (refine tr_lab (D := 0) (t := 56) vb_X12_joined_56 _ ve_X12_joined_56 ?_; simp (maxDischargeDepth := 12) [vb_X12_joined_56, wB, wI, k1, kI, kR, kL, k2, pget, pget_pset, pnl_pset, pnl_cons, pnl_nil, parg, ppush, pcat, zw_lit, zw_m1, zw_m2, zw_m3, zNC_eq, zrow, pup_app, sh_590, zw_in, q2_in, ptl, Op.lookupswitch.offset, hb, hc])
  all_goals repeat' (with_reducible (first | (refine And.intro ?_ ?_) | intro _))
  all_goals try (refine tr_lab (D := 0) (t := 60) vb_X12_joined_60 _ ve_X12_joined_60 ?_; simp (maxDischargeDepth := 12) [vb_X12_joined_60, wB, wI, k1, kI, kR, kL, k2, pget, pget_pset, pnl_pset, pnl_cons, pnl_nil, parg, ppush, pcat, zw_lit, zw_m1, zw_m2, zw_m3, zNC_eq, zrow, pup_app, sh_590, zw_in, q2_in, ptl, Op.lookupswitch.offset, hb, hc])
  all_goals repeat' (with_reducible (first | (refine And.intro ?_ ?_) | intro _))
  all_goals try (refine tr_lab (D := 0) (t := 64) vb_X12_joined_64 _ ve_X12_joined_64 ?_; simp (maxDischargeDepth := 12) [vb_X12_joined_64, wB, wI, k1, kI, kR, kL, k2, pget, pget_pset, pnl_pset, pnl_cons, pnl_nil, parg, ppush, pcat, zw_lit, zw_m1, zw_m2, zw_m3, zNC_eq, zrow, pup_app, sh_590, zw_in, q2_in, ptl, Op.lookupswitch.offset, hb, hc])
  all_goals repeat' (with_reducible (first | (refine And.intro ?_ ?_) | intro _))
  all_goals try (refine tr_lab (D := 0) (t := 72) vb_X12_joined_72 _ ve_X12_joined_72 ?_; simp (maxDischargeDepth := 12) [vb_X12_joined_72, wB, wI, k1, kI, kR, kL, k2, pget, pget_pset, pnl_pset, pnl_cons, pnl_nil, parg, ppush, pcat, zw_lit, zw_m1, zw_m2, zw_m3, zNC_eq, zrow, pup_app, sh_590, zw_in, q2_in, ptl, Op.lookupswitch.offset, hb, hc])
  all_goals repeat' (with_reducible (first | (refine And.intro ?_ ?_) | intro _))
  all_goals try (refine tr_lab (D := 0) (t := 75) vb_X12_joined_75 _ ve_X12_joined_75 ?_; simp (maxDischargeDepth := 12) [vb_X12_joined_75, wB, wI, k1, kI, kR, kL, k2, pget, pget_pset, pnl_pset, pnl_cons, pnl_nil, parg, ppush, pcat, zw_lit, zw_m1, zw_m2, zw_m3, zNC_eq, zrow, pup_app, sh_590, zw_in, q2_in, ptl, Op.lookupswitch.offset, hb, hc])
  all_goals repeat' (with_reducible (first | (refine And.intro ?_ ?_) | intro _))
  all_goals try (refine tr_lab (D := 0) (t := 76) vb_X12_joined_76 _ ve_X12_joined_76 ?_; simp (maxDischargeDepth := 12) [vb_X12_joined_76, wB, wI, k1, kI, kR, kL, k2, pget, pget_pset, pnl_pset, pnl_cons, pnl_nil, parg, ppush, pcat, zw_lit, zw_m1, zw_m2, zw_m3, zNC_eq, zrow, pup_app, sh_590, zw_in, q2_in, ptl, Op.lookupswitch.offset, hb, hc])
  all_goals repeat' (with_reducible (first | (refine And.intro ?_ ?_) | intro _))
  all_goals try (refine tr_lab (D := 0) (t := 85) vb_X12_joined_85 _ ve_X12_joined_85 ?_; simp (maxDischargeDepth := 12) [vb_X12_joined_85, wB, wI, k1, kI, kR, kL, k2, pget, pget_pset, pnl_pset, pnl_cons, pnl_nil, parg, ppush, pcat, zw_lit, zw_m1, zw_m2, zw_m3, zNC_eq, zrow, pup_app, sh_590, zw_in, q2_in, ptl, Op.lookupswitch.offset, hb, hc])
  all_goals repeat' (with_reducible (first | (refine And.intro ?_ ?_) | intro _))
  all_goals try (refine tr_lab (D := 0) (t := 86) vb_X12_joined_86 _ ve_X12_joined_86 ?_; simp (maxDischargeDepth := 12) [vb_X12_joined_86, wB, wI, k1, kI, kR, kL, k2, pget, pget_pset, pnl_pset, pnl_cons, pnl_nil, parg, ppush, pcat, zw_lit, zw_m1, zw_m2, zw_m3, zNC_eq, zrow, pup_app, sh_590, zw_in, q2_in, ptl, Op.lookupswitch.offset, hb, hc])
  all_goals repeat' (with_reducible (first | (refine And.intro ?_ ?_) | intro _))
  all_goals try (refine tr_lab (D := 0) (t := 87) vb_X12_joined_87 _ ve_X12_joined_87 ?_; simp (maxDischargeDepth := 12) [vb_X12_joined_87, wB, wI, k1, kI, kR, kL, k2, pget, pget_pset, pnl_pset, pnl_cons, pnl_nil, parg, ppush, pcat, zw_lit, zw_m1, zw_m2, zw_m3, zNC_eq, zrow, pup_app, sh_590, zw_in, q2_in, ptl, Op.lookupswitch.offset, hb, hc])
  all_goals repeat' (with_reducible (first | (refine And.intro ?_ ?_) | intro _))
  all_goals try (refine tr_lab (D := 0) (t := 96) vb_X12_joined_96 _ ve_X12_joined_96 ?_; simp (maxDischargeDepth := 12) [vb_X12_joined_96, wB, wI, k1, kI, kR, kL, k2, pget, pget_pset, pnl_pset, pnl_cons, pnl_nil, parg, ppush, pcat, zw_lit, zw_m1, zw_m2, zw_m3, zNC_eq, zrow, pup_app, sh_590, zw_in, q2_in, ptl, Op.lookupswitch.offset, hb, hc])
  all_goals repeat' (with_reducible (first | (refine And.intro ?_ ?_) | intro _))
  all_goals try (refine tr_lab (D := 0) (t := 97) vb_X12_joined_97 _ ve_X12_joined_97 ?_; simp (maxDischargeDepth := 12) [vb_X12_joined_97, wB, wI, k1, kI, kR, kL, k2, pget, pget_pset, pnl_pset, pnl_cons, pnl_nil, parg, ppush, pcat, zw_lit, zw_m1, zw_m2, zw_m3, zNC_eq, zrow, pup_app, sh_590, zw_in, q2_in, ptl, Op.lookupswitch.offset, hb, hc])
  all_goals repeat' (with_reducible (first | (refine And.intro ?_ ?_) | intro _))
  all_goals (first | (split <;> assumption) | exact (q2_in _ _ _) | exact (zw_in _) | (constructor <;> omega) | (unfold zIn; omega) | trivial)
set_option maxRecDepth 20000 in
set_option maxHeartbeats 4000000 in
theorem ca_X12_joined_43 {G : zG} {us : Nat} (b c : Int) (H : PH) (hb : zIn b) (hc : zIn c) : Ca G us 1 190 [(0, 43), (0, b), (0, c)] H (fun r H' => H = H' ∧ ∃ x, r = some (0, x) ∧ zIn x) := by
  refine ⟨_, _, _, _, _, _, vm_X12_joined, by simp [pcat], ?_⟩
  refine tr_lab (D := 0) (t := 0) vb_X12_joined_0 _ ve_X12_joined_0 ?_
  simp (maxDischargeDepth := 12) [vb_X12_joined_0, wB, wI, k1, kI, kR, kL, k2, pget, pget_pset, pnl_pset, pnl_cons, pnl_nil, parg, ppush, pcat, zw_lit, zw_m1, zw_m2, zw_m3, zNC_eq, zrow, pup_app, sh_590, zw_in, q2_in, ptl, Op.lookupswitch.offset, hb, hc]
  repeat' (with_reducible (first | (refine And.intro ?_ ?_) | intro _))
  all_goals try (refine tr_lab (D := 0) (t := 52) vb_X12_joined_52 _ ve_X12_joined_52 ?_; simp (maxDischargeDepth := 12) [vb_X12_joined_52, wB, wI, k1, kI, kR, kL, k2, pget, pget_pset, pnl_pset, pnl_cons, pnl_nil, parg, ppush, pcat, zw_lit, zw_m1, zw_m2, zw_m3, zNC_eq, zrow, pup_app, sh_590, zw_in, q2_in, ptl, Op.lookupswitch.offset, hb, hc])
  all_goals repeat' (with_reducible (first | (refine And.intro ?_ ?_) | intro _))
  all_goals try (refine tr_lab (D := 0) (t := 56) vb_X12_joined_56 _ ve_X12_joined_56 ?_; simp (maxDischargeDepth := 12) [vb_X12_joined_56, wB, wI, k1, kI, kR, kL, k2, pget, pget_pset, pnl_pset, pnl_cons, pnl_nil, parg, ppush, pcat, zw_lit, zw_m1, zw_m2, zw_m3, zNC_eq, zrow, pup_app, sh_590, zw_in, q2_in, ptl, Op.lookupswitch.offset, hb, hc])
  all_goals repeat' (with_reducible (first | (refine And.intro ?_ ?_) | intro _))
  all_goals try (refine tr_lab (D := 0) (t := 60) vb_X12_joined_60 _ ve_X12_joined_60 ?_; simp (maxDischargeDepth := 12) [vb_X12_joined_60, wB, wI, k1, kI, kR, kL, k2, pget, pget_pset, pnl_pset, pnl_cons, pnl_nil, parg, ppush, pcat, zw_lit, zw_m1, zw_m2, zw_m3, zNC_eq, zrow, pup_app, sh_590, zw_in, q2_in, ptl, Op.lookupswitch.offset, hb, hc])
  all_goals repeat' (with_reducible (first | (refine And.intro ?_ ?_) | intro _))
  all_goals try (refine tr_lab (D := 0) (t := 64) vb_X12_joined_64 _ ve_X12_joined_64 ?_; simp (maxDischargeDepth := 12) [vb_X12_joined_64, wB, wI, k1, kI, kR, kL, k2, pget, pget_pset, pnl_pset, pnl_cons, pnl_nil, parg, ppush, pcat, zw_lit, zw_m1, zw_m2, zw_m3, zNC_eq, zrow, pup_app, sh_590, zw_in, q2_in, ptl, Op.lookupswitch.offset, hb, hc])
  all_goals repeat' (with_reducible (first | (refine And.intro ?_ ?_) | intro _))
  all_goals try (refine tr_lab (D := 0) (t := 72) vb_X12_joined_72 _ ve_X12_joined_72 ?_; simp (maxDischargeDepth := 12) [vb_X12_joined_72, wB, wI, k1, kI, kR, kL, k2, pget, pget_pset, pnl_pset, pnl_cons, pnl_nil, parg, ppush, pcat, zw_lit, zw_m1, zw_m2, zw_m3, zNC_eq, zrow, pup_app, sh_590, zw_in, q2_in, ptl, Op.lookupswitch.offset, hb, hc])
  all_goals repeat' (with_reducible (first | (refine And.intro ?_ ?_) | intro _))
  all_goals try (refine tr_lab (D := 0) (t := 75) vb_X12_joined_75 _ ve_X12_joined_75 ?_; simp (maxDischargeDepth := 12) [vb_X12_joined_75, wB, wI, k1, kI, kR, kL, k2, pget, pget_pset, pnl_pset, pnl_cons, pnl_nil, parg, ppush, pcat, zw_lit, zw_m1, zw_m2, zw_m3, zNC_eq, zrow, pup_app, sh_590, zw_in, q2_in, ptl, Op.lookupswitch.offset, hb, hc])
  all_goals repeat' (with_reducible (first | (refine And.intro ?_ ?_) | intro _))
  all_goals try (refine tr_lab (D := 0) (t := 76) vb_X12_joined_76 _ ve_X12_joined_76 ?_; simp (maxDischargeDepth := 12) [vb_X12_joined_76, wB, wI, k1, kI, kR, kL, k2, pget, pget_pset, pnl_pset, pnl_cons, pnl_nil, parg, ppush, pcat, zw_lit, zw_m1, zw_m2, zw_m3, zNC_eq, zrow, pup_app, sh_590, zw_in, q2_in, ptl, Op.lookupswitch.offset, hb, hc])
  all_goals repeat' (with_reducible (first | (refine And.intro ?_ ?_) | intro _))
  all_goals try (refine tr_lab (D := 0) (t := 85) vb_X12_joined_85 _ ve_X12_joined_85 ?_; simp (maxDischargeDepth := 12) [vb_X12_joined_85, wB, wI, k1, kI, kR, kL, k2, pget, pget_pset, pnl_pset, pnl_cons, pnl_nil, parg, ppush, pcat, zw_lit, zw_m1, zw_m2, zw_m3, zNC_eq, zrow, pup_app, sh_590, zw_in, q2_in, ptl, Op.lookupswitch.offset, hb, hc])
  all_goals repeat' (with_reducible (first | (refine And.intro ?_ ?_) | intro _))
  all_goals try (refine tr_lab (D := 0) (t := 86) vb_X12_joined_86 _ ve_X12_joined_86 ?_; simp (maxDischargeDepth := 12) [vb_X12_joined_86, wB, wI, k1, kI, kR, kL, k2, pget, pget_pset, pnl_pset, pnl_cons, pnl_nil, parg, ppush, pcat, zw_lit, zw_m1, zw_m2, zw_m3, zNC_eq, zrow, pup_app, sh_590, zw_in, q2_in, ptl, Op.lookupswitch.offset, hb, hc])
  all_goals repeat' (with_reducible (first | (refine And.intro ?_ ?_) | intro _))
  all_goals try (refine tr_lab (D := 0) (t := 87) vb_X12_joined_87 _ ve_X12_joined_87 ?_; simp (maxDischargeDepth := 12) [vb_X12_joined_87, wB, wI, k1, kI, kR, kL, k2, pget, pget_pset, pnl_pset, pnl_cons, pnl_nil, parg, ppush, pcat, zw_lit, zw_m1, zw_m2, zw_m3, zNC_eq, zrow, pup_app, sh_590, zw_in, q2_in, ptl, Op.lookupswitch.offset, hb, hc])
  all_goals repeat' (with_reducible (first | (refine And.intro ?_ ?_) | intro _))
  all_goals try (refine tr_lab (D := 0) (t := 96) vb_X12_joined_96 _ ve_X12_joined_96 ?_; simp (maxDischargeDepth := 12) [vb_X12_joined_96, wB, wI, k1, kI, kR, kL, k2, pget, pget_pset, pnl_pset, pnl_cons, pnl_nil, parg, ppush, pcat, zw_lit, zw_m1, zw_m2, zw_m3, zNC_eq, zrow, pup_app, sh_590, zw_in, q2_in, ptl, Op.lookupswitch.offset, hb, hc])
  all_goals repeat' (with_reducible (first | (refine And.intro ?_ ?_) | intro _))
  all_goals try (refine tr_lab (D := 0) (t := 97) vb_X12_joined_97 _ ve_X12_joined_97 ?_; simp (maxDischargeDepth := 12) [vb_X12_joined_97, wB, wI, k1, kI, kR, kL, k2, pget, pget_pset, pnl_pset, pnl_cons, pnl_nil, parg, ppush, pcat, zw_lit, zw_m1, zw_m2, zw_m3, zNC_eq, zrow, pup_app, sh_590, zw_in, q2_in, ptl, Op.lookupswitch.offset, hb, hc])
  all_goals repeat' (with_reducible (first | (refine And.intro ?_ ?_) | intro _))
  all_goals (first | (split <;> assumption) | exact (q2_in _ _ _) | exact (zw_in _) | (constructor <;> omega) | (unfold zIn; omega) | trivial)
set_option maxRecDepth 20000 in
set_option maxHeartbeats 4000000 in
theorem ca_X12_joined_45 {G : zG} {us : Nat} (b c : Int) (H : PH) (hb : zIn b) (hc : zIn c) : Ca G us 1 190 [(0, 45), (0, b), (0, c)] H (fun r H' => H = H' ∧ ∃ x, r = some (0, x) ∧ zIn x) := by
  refine ⟨_, _, _, _, _, _, vm_X12_joined, by simp [pcat], ?_⟩
  refine tr_lab (D := 0) (t := 0) vb_X12_joined_0 _ ve_X12_joined_0 ?_
  simp (maxDischargeDepth := 12) [vb_X12_joined_0, wB, wI, k1, kI, kR, kL, k2, pget, pget_pset, pnl_pset, pnl_cons, pnl_nil, parg, ppush, pcat, zw_lit, zw_m1, zw_m2, zw_m3, zNC_eq, zrow, pup_app, sh_590, zw_in, q2_in, ptl, Op.lookupswitch.offset, hb, hc]
  repeat' (with_reducible (first | (refine And.intro ?_ ?_) | intro _))
  all_goals try (refine tr_lab (D := 0) (t := 52) vb_X12_joined_52 _ ve_X12_joined_52 ?_; simp (maxDischargeDepth := 12) [vb_X12_joined_52, wB, wI, k1, kI, kR, kL, k2, pget, pget_pset, pnl_pset, pnl_cons, pnl_nil, parg, ppush, pcat, zw_lit, zw_m1, zw_m2, zw_m3, zNC_eq, zrow, pup_app, sh_590, zw_in, q2_in, ptl, Op.lookupswitch.offset, hb, hc])
  all_goals repeat' (with_reducible (first | (refine And.intro ?_ ?_) | intro _))
  all_goals try (refine tr_lab (D := 0) (t := 56) vb_X12_joined_56 _ ve_X12_joined_56 ?_; simp (maxDischargeDepth := 12) [vb_X12_joined_56, wB, wI, k1, kI, kR, kL, k2, pget, pget_pset, pnl_pset, pnl_cons, pnl_nil, parg, ppush, pcat, zw_lit, zw_m1, zw_m2, zw_m3, zNC_eq, zrow, pup_app, sh_590, zw_in, q2_in, ptl, Op.lookupswitch.offset, hb, hc])
  all_goals repeat' (with_reducible (first | (refine And.intro ?_ ?_) | intro _))
  all_goals try (refine tr_lab (D := 0) (t := 60) vb_X12_joined_60 _ ve_X12_joined_60 ?_; simp (maxDischargeDepth := 12) [vb_X12_joined_60, wB, wI, k1, kI, kR, kL, k2, pget, pget_pset, pnl_pset, pnl_cons, pnl_nil, parg, ppush, pcat, zw_lit, zw_m1, zw_m2, zw_m3, zNC_eq, zrow, pup_app, sh_590, zw_in, q2_in, ptl, Op.lookupswitch.offset, hb, hc])
  all_goals repeat' (with_reducible (first | (refine And.intro ?_ ?_) | intro _))
  all_goals try (refine tr_lab (D := 0) (t := 64) vb_X12_joined_64 _ ve_X12_joined_64 ?_; simp (maxDischargeDepth := 12) [vb_X12_joined_64, wB, wI, k1, kI, kR, kL, k2, pget, pget_pset, pnl_pset, pnl_cons, pnl_nil, parg, ppush, pcat, zw_lit, zw_m1, zw_m2, zw_m3, zNC_eq, zrow, pup_app, sh_590, zw_in, q2_in, ptl, Op.lookupswitch.offset, hb, hc])
  all_goals repeat' (with_reducible (first | (refine And.intro ?_ ?_) | intro _))
  all_goals try (refine tr_lab (D := 0) (t := 72) vb_X12_joined_72 _ ve_X12_joined_72 ?_; simp (maxDischargeDepth := 12) [vb_X12_joined_72, wB, wI, k1, kI, kR, kL, k2, pget, pget_pset, pnl_pset, pnl_cons, pnl_nil, parg, ppush, pcat, zw_lit, zw_m1, zw_m2, zw_m3, zNC_eq, zrow, pup_app, sh_590, zw_in, q2_in, ptl, Op.lookupswitch.offset, hb, hc])
  all_goals repeat' (with_reducible (first | (refine And.intro ?_ ?_) | intro _))
  all_goals try (refine tr_lab (D := 0) (t := 75) vb_X12_joined_75 _ ve_X12_joined_75 ?_; simp (maxDischargeDepth := 12) [vb_X12_joined_75, wB, wI, k1, kI, kR, kL, k2, pget, pget_pset, pnl_pset, pnl_cons, pnl_nil, parg, ppush, pcat, zw_lit, zw_m1, zw_m2, zw_m3, zNC_eq, zrow, pup_app, sh_590, zw_in, q2_in, ptl, Op.lookupswitch.offset, hb, hc])
  all_goals repeat' (with_reducible (first | (refine And.intro ?_ ?_) | intro _))
  all_goals try (refine tr_lab (D := 0) (t := 76) vb_X12_joined_76 _ ve_X12_joined_76 ?_; simp (maxDischargeDepth := 12) [vb_X12_joined_76, wB, wI, k1, kI, kR, kL, k2, pget, pget_pset, pnl_pset, pnl_cons, pnl_nil, parg, ppush, pcat, zw_lit, zw_m1, zw_m2, zw_m3, zNC_eq, zrow, pup_app, sh_590, zw_in, q2_in, ptl, Op.lookupswitch.offset, hb, hc])
  all_goals repeat' (with_reducible (first | (refine And.intro ?_ ?_) | intro _))
  all_goals try (refine tr_lab (D := 0) (t := 85) vb_X12_joined_85 _ ve_X12_joined_85 ?_; simp (maxDischargeDepth := 12) [vb_X12_joined_85, wB, wI, k1, kI, kR, kL, k2, pget, pget_pset, pnl_pset, pnl_cons, pnl_nil, parg, ppush, pcat, zw_lit, zw_m1, zw_m2, zw_m3, zNC_eq, zrow, pup_app, sh_590, zw_in, q2_in, ptl, Op.lookupswitch.offset, hb, hc])
  all_goals repeat' (with_reducible (first | (refine And.intro ?_ ?_) | intro _))
  all_goals try (refine tr_lab (D := 0) (t := 86) vb_X12_joined_86 _ ve_X12_joined_86 ?_; simp (maxDischargeDepth := 12) [vb_X12_joined_86, wB, wI, k1, kI, kR, kL, k2, pget, pget_pset, pnl_pset, pnl_cons, pnl_nil, parg, ppush, pcat, zw_lit, zw_m1, zw_m2, zw_m3, zNC_eq, zrow, pup_app, sh_590, zw_in, q2_in, ptl, Op.lookupswitch.offset, hb, hc])
  all_goals repeat' (with_reducible (first | (refine And.intro ?_ ?_) | intro _))
  all_goals try (refine tr_lab (D := 0) (t := 87) vb_X12_joined_87 _ ve_X12_joined_87 ?_; simp (maxDischargeDepth := 12) [vb_X12_joined_87, wB, wI, k1, kI, kR, kL, k2, pget, pget_pset, pnl_pset, pnl_cons, pnl_nil, parg, ppush, pcat, zw_lit, zw_m1, zw_m2, zw_m3, zNC_eq, zrow, pup_app, sh_590, zw_in, q2_in, ptl, Op.lookupswitch.offset, hb, hc])
  all_goals repeat' (with_reducible (first | (refine And.intro ?_ ?_) | intro _))
  all_goals try (refine tr_lab (D := 0) (t := 96) vb_X12_joined_96 _ ve_X12_joined_96 ?_; simp (maxDischargeDepth := 12) [vb_X12_joined_96, wB, wI, k1, kI, kR, kL, k2, pget, pget_pset, pnl_pset, pnl_cons, pnl_nil, parg, ppush, pcat, zw_lit, zw_m1, zw_m2, zw_m3, zNC_eq, zrow, pup_app, sh_590, zw_in, q2_in, ptl, Op.lookupswitch.offset, hb, hc])
  all_goals repeat' (with_reducible (first | (refine And.intro ?_ ?_) | intro _))
  all_goals try (refine tr_lab (D := 0) (t := 97) vb_X12_joined_97 _ ve_X12_joined_97 ?_; simp (maxDischargeDepth := 12) [vb_X12_joined_97, wB, wI, k1, kI, kR, kL, k2, pget, pget_pset, pnl_pset, pnl_cons, pnl_nil, parg, ppush, pcat, zw_lit, zw_m1, zw_m2, zw_m3, zNC_eq, zrow, pup_app, sh_590, zw_in, q2_in, ptl, Op.lookupswitch.offset, hb, hc])
  all_goals repeat' (with_reducible (first | (refine And.intro ?_ ?_) | intro _))
  all_goals (first | (split <;> assumption) | exact (q2_in _ _ _) | exact (zw_in _) | (constructor <;> omega) | (unfold zIn; omega) | trivial)
set_option maxRecDepth 20000 in
set_option maxHeartbeats 4000000 in
theorem ca_X12_joined_47 {G : zG} {us : Nat} (b c : Int) (H : PH) (hb : zIn b) (hc : zIn c) : Ca G us 1 190 [(0, 47), (0, b), (0, c)] H (fun r H' => H = H' ∧ ∃ x, r = some (0, x) ∧ zIn x) := by
  refine ⟨_, _, _, _, _, _, vm_X12_joined, by simp [pcat], ?_⟩
  refine tr_lab (D := 0) (t := 0) vb_X12_joined_0 _ ve_X12_joined_0 ?_
  simp (maxDischargeDepth := 12) [vb_X12_joined_0, wB, wI, k1, kI, kR, kL, k2, pget, pget_pset, pnl_pset, pnl_cons, pnl_nil, parg, ppush, pcat, zw_lit, zw_m1, zw_m2, zw_m3, zNC_eq, zrow, pup_app, sh_590, zw_in, q2_in, ptl, Op.lookupswitch.offset, hb, hc]
  repeat' (with_reducible (first | (refine And.intro ?_ ?_) | intro _))
  all_goals try (refine tr_lab (D := 0) (t := 52) vb_X12_joined_52 _ ve_X12_joined_52 ?_; simp (maxDischargeDepth := 12) [vb_X12_joined_52, wB, wI, k1, kI, kR, kL, k2, pget, pget_pset, pnl_pset, pnl_cons, pnl_nil, parg, ppush, pcat, zw_lit, zw_m1, zw_m2, zw_m3, zNC_eq, zrow, pup_app, sh_590, zw_in, q2_in, ptl, Op.lookupswitch.offset, hb, hc])
  all_goals repeat' (with_reducible (first | (refine And.intro ?_ ?_) | intro _))
  all_goals try (refine tr_lab (D := 0) (t := 56) vb_X12_joined_56 _ ve_X12_joined_56 ?_; simp (maxDischargeDepth := 12) [vb_X12_joined_56, wB, wI, k1, kI, kR, kL, k2, pget, pget_pset, pnl_pset, pnl_cons, pnl_nil, parg, ppush, pcat, zw_lit, zw_m1, zw_m2, zw_m3, zNC_eq, zrow, pup_app, sh_590, zw_in, q2_in, ptl, Op.lookupswitch.offset, hb, hc])
  all_goals repeat' (with_reducible (first | (refine And.intro ?_ ?_) | intro _))
  all_goals try (refine tr_lab (D := 0) (t := 60) vb_X12_joined_60 _ ve_X12_joined_60 ?_; simp (maxDischargeDepth := 12) [vb_X12_joined_60, wB, wI, k1, kI, kR, kL, k2, pget, pget_pset, pnl_pset, pnl_cons, pnl_nil, parg, ppush, pcat, zw_lit, zw_m1, zw_m2, zw_m3, zNC_eq, zrow, pup_app, sh_590, zw_in, q2_in, ptl, Op.lookupswitch.offset, hb, hc])
  all_goals repeat' (with_reducible (first | (refine And.intro ?_ ?_) | intro _))
  all_goals try (refine tr_lab (D := 0) (t := 64) vb_X12_joined_64 _ ve_X12_joined_64 ?_; simp (maxDischargeDepth := 12) [vb_X12_joined_64, wB, wI, k1, kI, kR, kL, k2, pget, pget_pset, pnl_pset, pnl_cons, pnl_nil, parg, ppush, pcat, zw_lit, zw_m1, zw_m2, zw_m3, zNC_eq, zrow, pup_app, sh_590, zw_in, q2_in, ptl, Op.lookupswitch.offset, hb, hc])
  all_goals repeat' (with_reducible (first | (refine And.intro ?_ ?_) | intro _))
  all_goals try (refine tr_lab (D := 0) (t := 72) vb_X12_joined_72 _ ve_X12_joined_72 ?_; simp (maxDischargeDepth := 12) [vb_X12_joined_72, wB, wI, k1, kI, kR, kL, k2, pget, pget_pset, pnl_pset, pnl_cons, pnl_nil, parg, ppush, pcat, zw_lit, zw_m1, zw_m2, zw_m3, zNC_eq, zrow, pup_app, sh_590, zw_in, q2_in, ptl, Op.lookupswitch.offset, hb, hc])
  all_goals repeat' (with_reducible (first | (refine And.intro ?_ ?_) | intro _))
  all_goals try (refine tr_lab (D := 0) (t := 75) vb_X12_joined_75 _ ve_X12_joined_75 ?_; simp (maxDischargeDepth := 12) [vb_X12_joined_75, wB, wI, k1, kI, kR, kL, k2, pget, pget_pset, pnl_pset, pnl_cons, pnl_nil, parg, ppush, pcat, zw_lit, zw_m1, zw_m2, zw_m3, zNC_eq, zrow, pup_app, sh_590, zw_in, q2_in, ptl, Op.lookupswitch.offset, hb, hc])
  all_goals repeat' (with_reducible (first | (refine And.intro ?_ ?_) | intro _))
  all_goals try (refine tr_lab (D := 0) (t := 76) vb_X12_joined_76 _ ve_X12_joined_76 ?_; simp (maxDischargeDepth := 12) [vb_X12_joined_76, wB, wI, k1, kI, kR, kL, k2, pget, pget_pset, pnl_pset, pnl_cons, pnl_nil, parg, ppush, pcat, zw_lit, zw_m1, zw_m2, zw_m3, zNC_eq, zrow, pup_app, sh_590, zw_in, q2_in, ptl, Op.lookupswitch.offset, hb, hc])
  all_goals repeat' (with_reducible (first | (refine And.intro ?_ ?_) | intro _))
  all_goals try (refine tr_lab (D := 0) (t := 85) vb_X12_joined_85 _ ve_X12_joined_85 ?_; simp (maxDischargeDepth := 12) [vb_X12_joined_85, wB, wI, k1, kI, kR, kL, k2, pget, pget_pset, pnl_pset, pnl_cons, pnl_nil, parg, ppush, pcat, zw_lit, zw_m1, zw_m2, zw_m3, zNC_eq, zrow, pup_app, sh_590, zw_in, q2_in, ptl, Op.lookupswitch.offset, hb, hc])
  all_goals repeat' (with_reducible (first | (refine And.intro ?_ ?_) | intro _))
  all_goals try (refine tr_lab (D := 0) (t := 86) vb_X12_joined_86 _ ve_X12_joined_86 ?_; simp (maxDischargeDepth := 12) [vb_X12_joined_86, wB, wI, k1, kI, kR, kL, k2, pget, pget_pset, pnl_pset, pnl_cons, pnl_nil, parg, ppush, pcat, zw_lit, zw_m1, zw_m2, zw_m3, zNC_eq, zrow, pup_app, sh_590, zw_in, q2_in, ptl, Op.lookupswitch.offset, hb, hc])
  all_goals repeat' (with_reducible (first | (refine And.intro ?_ ?_) | intro _))
  all_goals try (refine tr_lab (D := 0) (t := 87) vb_X12_joined_87 _ ve_X12_joined_87 ?_; simp (maxDischargeDepth := 12) [vb_X12_joined_87, wB, wI, k1, kI, kR, kL, k2, pget, pget_pset, pnl_pset, pnl_cons, pnl_nil, parg, ppush, pcat, zw_lit, zw_m1, zw_m2, zw_m3, zNC_eq, zrow, pup_app, sh_590, zw_in, q2_in, ptl, Op.lookupswitch.offset, hb, hc])
  all_goals repeat' (with_reducible (first | (refine And.intro ?_ ?_) | intro _))
  all_goals try (refine tr_lab (D := 0) (t := 96) vb_X12_joined_96 _ ve_X12_joined_96 ?_; simp (maxDischargeDepth := 12) [vb_X12_joined_96, wB, wI, k1, kI, kR, kL, k2, pget, pget_pset, pnl_pset, pnl_cons, pnl_nil, parg, ppush, pcat, zw_lit, zw_m1, zw_m2, zw_m3, zNC_eq, zrow, pup_app, sh_590, zw_in, q2_in, ptl, Op.lookupswitch.offset, hb, hc])
  all_goals repeat' (with_reducible (first | (refine And.intro ?_ ?_) | intro _))
  all_goals try (refine tr_lab (D := 0) (t := 97) vb_X12_joined_97 _ ve_X12_joined_97 ?_; simp (maxDischargeDepth := 12) [vb_X12_joined_97, wB, wI, k1, kI, kR, kL, k2, pget, pget_pset, pnl_pset, pnl_cons, pnl_nil, parg, ppush, pcat, zw_lit, zw_m1, zw_m2, zw_m3, zNC_eq, zrow, pup_app, sh_590, zw_in, q2_in, ptl, Op.lookupswitch.offset, hb, hc])
  all_goals repeat' (with_reducible (first | (refine And.intro ?_ ?_) | intro _))
  all_goals (first | (split <;> assumption) | exact (q2_in _ _ _) | exact (zw_in _) | (constructor <;> omega) | (unfold zIn; omega) | trivial)
set_option maxRecDepth 20000 in
set_option maxHeartbeats 4000000 in
theorem ca_X12_joined_60 {G : zG} {us : Nat} (b c : Int) (H : PH) (hb : zIn b) (hc : zIn c) : Ca G us 1 190 [(0, 60), (0, b), (0, c)] H (fun r H' => H = H' ∧ ∃ x, r = some (0, x) ∧ zIn x) := by
  refine ⟨_, _, _, _, _, _, vm_X12_joined, by simp [pcat], ?_⟩
  refine tr_lab (D := 0) (t := 0) vb_X12_joined_0 _ ve_X12_joined_0 ?_
  simp (maxDischargeDepth := 12) [vb_X12_joined_0, wB, wI, k1, kI, kR, kL, k2, pget, pget_pset, pnl_pset, pnl_cons, pnl_nil, parg, ppush, pcat, zw_lit, zw_m1, zw_m2, zw_m3, zNC_eq, zrow, pup_app, sh_590, zw_in, q2_in, ptl, Op.lookupswitch.offset, hb, hc]
  repeat' (with_reducible (first | (refine And.intro ?_ ?_) | intro _))
  all_goals try (refine tr_lab (D := 0) (t := 52) vb_X12_joined_52 _ ve_X12_joined_52 ?_; simp (maxDischargeDepth := 12) [vb_X12_joined_52, wB, wI, k1, kI, kR, kL, k2, pget, pget_pset, pnl_pset, pnl_cons, pnl_nil, parg, ppush, pcat, zw_lit, zw_m1, zw_m2, zw_m3, zNC_eq, zrow, pup_app, sh_590, zw_in, q2_in, ptl, Op.lookupswitch.offset, hb, hc])
  all_goals repeat' (with_reducible (first | (refine And.intro ?_ ?_) | intro _))
  all_goals try (refine tr_lab (D := 0) (t := 56) vb_X12_joined_56 _ ve_X12_joined_56 ?_; simp (maxDischargeDepth := 12) [vb_X12_joined_56, wB, wI, k1, kI, kR, kL, k2, pget, pget_pset, pnl_pset, pnl_cons, pnl_nil, parg, ppush, pcat, zw_lit, zw_m1, zw_m2, zw_m3, zNC_eq, zrow, pup_app, sh_590, zw_in, q2_in, ptl, Op.lookupswitch.offset, hb, hc])
  all_goals repeat' (with_reducible (first | (refine And.intro ?_ ?_) | intro _))
  all_goals try (refine tr_lab (D := 0) (t := 60) vb_X12_joined_60 _ ve_X12_joined_60 ?_; simp (maxDischargeDepth := 12) [vb_X12_joined_60, wB, wI, k1, kI, kR, kL, k2, pget, pget_pset, pnl_pset, pnl_cons, pnl_nil, parg, ppush, pcat, zw_lit, zw_m1, zw_m2, zw_m3, zNC_eq, zrow, pup_app, sh_590, zw_in, q2_in, ptl, Op.lookupswitch.offset, hb, hc])
  all_goals repeat' (with_reducible (first | (refine And.intro ?_ ?_) | intro _))
  all_goals try (refine tr_lab (D := 0) (t := 64) vb_X12_joined_64 _ ve_X12_joined_64 ?_; simp (maxDischargeDepth := 12) [vb_X12_joined_64, wB, wI, k1, kI, kR, kL, k2, pget, pget_pset, pnl_pset, pnl_cons, pnl_nil, parg, ppush, pcat, zw_lit, zw_m1, zw_m2, zw_m3, zNC_eq, zrow, pup_app, sh_590, zw_in, q2_in, ptl, Op.lookupswitch.offset, hb, hc])
  all_goals repeat' (with_reducible (first | (refine And.intro ?_ ?_) | intro _))
  all_goals try (refine tr_lab (D := 0) (t := 72) vb_X12_joined_72 _ ve_X12_joined_72 ?_; simp (maxDischargeDepth := 12) [vb_X12_joined_72, wB, wI, k1, kI, kR, kL, k2, pget, pget_pset, pnl_pset, pnl_cons, pnl_nil, parg, ppush, pcat, zw_lit, zw_m1, zw_m2, zw_m3, zNC_eq, zrow, pup_app, sh_590, zw_in, q2_in, ptl, Op.lookupswitch.offset, hb, hc])
  all_goals repeat' (with_reducible (first | (refine And.intro ?_ ?_) | intro _))
  all_goals try (refine tr_lab (D := 0) (t := 75) vb_X12_joined_75 _ ve_X12_joined_75 ?_; simp (maxDischargeDepth := 12) [vb_X12_joined_75, wB, wI, k1, kI, kR, kL, k2, pget, pget_pset, pnl_pset, pnl_cons, pnl_nil, parg, ppush, pcat, zw_lit, zw_m1, zw_m2, zw_m3, zNC_eq, zrow, pup_app, sh_590, zw_in, q2_in, ptl, Op.lookupswitch.offset, hb, hc])
  all_goals repeat' (with_reducible (first | (refine And.intro ?_ ?_) | intro _))
  all_goals try (refine tr_lab (D := 0) (t := 76) vb_X12_joined_76 _ ve_X12_joined_76 ?_; simp (maxDischargeDepth := 12) [vb_X12_joined_76, wB, wI, k1, kI, kR, kL, k2, pget, pget_pset, pnl_pset, pnl_cons, pnl_nil, parg, ppush, pcat, zw_lit, zw_m1, zw_m2, zw_m3, zNC_eq, zrow, pup_app, sh_590, zw_in, q2_in, ptl, Op.lookupswitch.offset, hb, hc])
  all_goals repeat' (with_reducible (first | (refine And.intro ?_ ?_) | intro _))
  all_goals try (refine tr_lab (D := 0) (t := 85) vb_X12_joined_85 _ ve_X12_joined_85 ?_; simp (maxDischargeDepth := 12) [vb_X12_joined_85, wB, wI, k1, kI, kR, kL, k2, pget, pget_pset, pnl_pset, pnl_cons, pnl_nil, parg, ppush, pcat, zw_lit, zw_m1, zw_m2, zw_m3, zNC_eq, zrow, pup_app, sh_590, zw_in, q2_in, ptl, Op.lookupswitch.offset, hb, hc])
  all_goals repeat' (with_reducible (first | (refine And.intro ?_ ?_) | intro _))
  all_goals try (refine tr_lab (D := 0) (t := 86) vb_X12_joined_86 _ ve_X12_joined_86 ?_; simp (maxDischargeDepth := 12) [vb_X12_joined_86, wB, wI, k1, kI, kR, kL, k2, pget, pget_pset, pnl_pset, pnl_cons, pnl_nil, parg, ppush, pcat, zw_lit, zw_m1, zw_m2, zw_m3, zNC_eq, zrow, pup_app, sh_590, zw_in, q2_in, ptl, Op.lookupswitch.offset, hb, hc])
  all_goals repeat' (with_reducible (first | (refine And.intro ?_ ?_) | intro _))
  all_goals try (refine tr_lab (D := 0) (t := 87) vb_X12_joined_87 _ ve_X12_joined_87 ?_; simp (maxDischargeDepth := 12) [vb_X12_joined_87, wB, wI, k1, kI, kR, kL, k2, pget, pget_pset, pnl_pset, pnl_cons, pnl_nil, parg, ppush, pcat, zw_lit, zw_m1, zw_m2, zw_m3, zNC_eq, zrow, pup_app, sh_590, zw_in, q2_in, ptl, Op.lookupswitch.offset, hb, hc])
  all_goals repeat' (with_reducible (first | (refine And.intro ?_ ?_) | intro _))
  all_goals try (refine tr_lab (D := 0) (t := 96) vb_X12_joined_96 _ ve_X12_joined_96 ?_; simp (maxDischargeDepth := 12) [vb_X12_joined_96, wB, wI, k1, kI, kR, kL, k2, pget, pget_pset, pnl_pset, pnl_cons, pnl_nil, parg, ppush, pcat, zw_lit, zw_m1, zw_m2, zw_m3, zNC_eq, zrow, pup_app, sh_590, zw_in, q2_in, ptl, Op.lookupswitch.offset, hb, hc])
  all_goals repeat' (with_reducible (first | (refine And.intro ?_ ?_) | intro _))
  all_goals try (refine tr_lab (D := 0) (t := 97) vb_X12_joined_97 _ ve_X12_joined_97 ?_; simp (maxDischargeDepth := 12) [vb_X12_joined_97, wB, wI, k1, kI, kR, kL, k2, pget, pget_pset, pnl_pset, pnl_cons, pnl_nil, parg, ppush, pcat, zw_lit, zw_m1, zw_m2, zw_m3, zNC_eq, zrow, pup_app, sh_590, zw_in, q2_in, ptl, Op.lookupswitch.offset, hb, hc])
  all_goals repeat' (with_reducible (first | (refine And.intro ?_ ?_) | intro _))
  all_goals (first | (split <;> assumption) | exact (q2_in _ _ _) | exact (zw_in _) | (constructor <;> omega) | (unfold zIn; omega) | trivial)
set_option maxRecDepth 20000 in
set_option maxHeartbeats 4000000 in
theorem ca_X12_joined_d {G : zG} {us : Nat} (a b c : Int) (H : PH) (hb : zIn b) (hc : zIn c) (h42 : ¬ a = 42) (h43 : ¬ a = 43) (h45 : ¬ a = 45) (h47 : ¬ a = 47) (h60 : ¬ a = 60) : Ca G us 1 190 [(0, a), (0, b), (0, c)] H (fun r H' => H = H' ∧ ∃ x, r = some (0, x) ∧ zIn x) := by
  have g42 : ¬ (42 : Int) = a := fun q => h42 q.symm
  have g43 : ¬ (43 : Int) = a := fun q => h43 q.symm
  have g45 : ¬ (45 : Int) = a := fun q => h45 q.symm
  have g47 : ¬ (47 : Int) = a := fun q => h47 q.symm
  have g60 : ¬ (60 : Int) = a := fun q => h60 q.symm
  refine ⟨_, _, _, _, _, _, vm_X12_joined, by simp [pcat], ?_⟩
  refine tr_lab (D := 0) (t := 0) vb_X12_joined_0 _ ve_X12_joined_0 ?_
  simp (maxDischargeDepth := 12) [vb_X12_joined_0, wB, wI, k1, kI, kR, kL, k2, pget, pget_pset, pnl_pset, pnl_cons, pnl_nil, parg, ppush, pcat, zw_lit, zw_m1, zw_m2, zw_m3, zNC_eq, zrow, pup_app, sh_590, zw_in, q2_in, ptl, Op.lookupswitch.offset, hb, hc, h42, h43, h45, h47, h60, g42, g43, g45, g47, g60]
  repeat' (with_reducible (first | (refine And.intro ?_ ?_) | intro _))
  all_goals try (refine tr_lab (D := 0) (t := 52) vb_X12_joined_52 _ ve_X12_joined_52 ?_; simp (maxDischargeDepth := 12) [vb_X12_joined_52, wB, wI, k1, kI, kR, kL, k2, pget, pget_pset, pnl_pset, pnl_cons, pnl_nil, parg, ppush, pcat, zw_lit, zw_m1, zw_m2, zw_m3, zNC_eq, zrow, pup_app, sh_590, zw_in, q2_in, ptl, Op.lookupswitch.offset, hb, hc, h42, h43, h45, h47, h60, g42, g43, g45, g47, g60])
  all_goals repeat' (with_reducible (first | (refine And.intro ?_ ?_) | intro _))
  all_goals try (refine tr_lab (D := 0) (t := 56) vb_X12_joined_56 _ ve_X12_joined_56 ?_; simp (maxDischargeDepth := 12) [vb_X12_joined_56, wB, wI, k1, kI, kR, kL, k2, pget, pget_pset, pnl_pset, pnl_cons, pnl_nil, parg, ppush, pcat, zw_lit, zw_m1, zw_m2, zw_m3, zNC_eq, zrow, pup_app, sh_590, zw_in, q2_in, ptl, Op.lookupswitch.offset, hb, hc, h42, h43, h45, h47, h60, g42, g43, g45, g47, g60])
  all_goals repeat' (with_reducible (first | (refine And.intro ?_ ?_) | intro _))
  all_goals try (refine tr_lab (D := 0) (t := 60) vb_X12_joined_60 _ ve_X12_joined_60 ?_; simp (maxDischargeDepth := 12) [vb_X12_joined_60, wB, wI, k1, kI, kR, kL, k2, pget, pget_pset, pnl_pset, pnl_cons, pnl_nil, parg, ppush, pcat, zw_lit, zw_m1, zw_m2, zw_m3, zNC_eq, zrow, pup_app, sh_590, zw_in, q2_in, ptl, Op.lookupswitch.offset, hb, hc, h42, h43, h45, h47, h60, g42, g43, g45, g47, g60])
  all_goals repeat' (with_reducible (first | (refine And.intro ?_ ?_) | intro _))
  all_goals try (refine tr_lab (D := 0) (t := 64) vb_X12_joined_64 _ ve_X12_joined_64 ?_; simp (maxDischargeDepth := 12) [vb_X12_joined_64, wB, wI, k1, kI, kR, kL, k2, pget, pget_pset, pnl_pset, pnl_cons, pnl_nil, parg, ppush, pcat, zw_lit, zw_m1, zw_m2, zw_m3, zNC_eq, zrow, pup_app, sh_590, zw_in, q2_in, ptl, Op.lookupswitch.offset, hb, hc, h42, h43, h45, h47, h60, g42, g43, g45, g47, g60])
  all_goals repeat' (with_reducible (first | (refine And.intro ?_ ?_) | intro _))
  all_goals try (refine tr_lab (D := 0) (t := 72) vb_X12_joined_72 _ ve_X12_joined_72 ?_; simp (maxDischargeDepth := 12) [vb_X12_joined_72, wB, wI, k1, kI, kR, kL, k2, pget, pget_pset, pnl_pset, pnl_cons, pnl_nil, parg, ppush, pcat, zw_lit, zw_m1, zw_m2, zw_m3, zNC_eq, zrow, pup_app, sh_590, zw_in, q2_in, ptl, Op.lookupswitch.offset, hb, hc, h42, h43, h45, h47, h60, g42, g43, g45, g47, g60])
  all_goals repeat' (with_reducible (first | (refine And.intro ?_ ?_) | intro _))
  all_goals try (refine tr_lab (D := 0) (t := 75) vb_X12_joined_75 _ ve_X12_joined_75 ?_; simp (maxDischargeDepth := 12) [vb_X12_joined_75, wB, wI, k1, kI, kR, kL, k2, pget, pget_pset, pnl_pset, pnl_cons, pnl_nil, parg, ppush, pcat, zw_lit, zw_m1, zw_m2, zw_m3, zNC_eq, zrow, pup_app, sh_590, zw_in, q2_in, ptl, Op.lookupswitch.offset, hb, hc, h42, h43, h45, h47, h60, g42, g43, g45, g47, g60])
  all_goals repeat' (with_reducible (first | (refine And.intro ?_ ?_) | intro _))
  all_goals try (refine tr_lab (D := 0) (t := 76) vb_X12_joined_76 _ ve_X12_joined_76 ?_; simp (maxDischargeDepth := 12) [vb_X12_joined_76, wB, wI, k1, kI, kR, kL, k2, pget, pget_pset, pnl_pset, pnl_cons, pnl_nil, parg, ppush, pcat, zw_lit, zw_m1, zw_m2, zw_m3, zNC_eq, zrow, pup_app, sh_590, zw_in, q2_in, ptl, Op.lookupswitch.offset, hb, hc, h42, h43, h45, h47, h60, g42, g43, g45, g47, g60])
  all_goals repeat' (with_reducible (first | (refine And.intro ?_ ?_) | intro _))
  all_goals try (refine tr_lab (D := 0) (t := 85) vb_X12_joined_85 _ ve_X12_joined_85 ?_; simp (maxDischargeDepth := 12) [vb_X12_joined_85, wB, wI, k1, kI, kR, kL, k2, pget, pget_pset, pnl_pset, pnl_cons, pnl_nil, parg, ppush, pcat, zw_lit, zw_m1, zw_m2, zw_m3, zNC_eq, zrow, pup_app, sh_590, zw_in, q2_in, ptl, Op.lookupswitch.offset, hb, hc, h42, h43, h45, h47, h60, g42, g43, g45, g47, g60])
  all_goals repeat' (with_reducible (first | (refine And.intro ?_ ?_) | intro _))
  all_goals try (refine tr_lab (D := 0) (t := 86) vb_X12_joined_86 _ ve_X12_joined_86 ?_; simp (maxDischargeDepth := 12) [vb_X12_joined_86, wB, wI, k1, kI, kR, kL, k2, pget, pget_pset, pnl_pset, pnl_cons, pnl_nil, parg, ppush, pcat, zw_lit, zw_m1, zw_m2, zw_m3, zNC_eq, zrow, pup_app, sh_590, zw_in, q2_in, ptl, Op.lookupswitch.offset, hb, hc, h42, h43, h45, h47, h60, g42, g43, g45, g47, g60])
  all_goals repeat' (with_reducible (first | (refine And.intro ?_ ?_) | intro _))
  all_goals try (refine tr_lab (D := 0) (t := 87) vb_X12_joined_87 _ ve_X12_joined_87 ?_; simp (maxDischargeDepth := 12) [vb_X12_joined_87, wB, wI, k1, kI, kR, kL, k2, pget, pget_pset, pnl_pset, pnl_cons, pnl_nil, parg, ppush, pcat, zw_lit, zw_m1, zw_m2, zw_m3, zNC_eq, zrow, pup_app, sh_590, zw_in, q2_in, ptl, Op.lookupswitch.offset, hb, hc, h42, h43, h45, h47, h60, g42, g43, g45, g47, g60])
  all_goals repeat' (with_reducible (first | (refine And.intro ?_ ?_) | intro _))
  all_goals try (refine tr_lab (D := 0) (t := 96) vb_X12_joined_96 _ ve_X12_joined_96 ?_; simp (maxDischargeDepth := 12) [vb_X12_joined_96, wB, wI, k1, kI, kR, kL, k2, pget, pget_pset, pnl_pset, pnl_cons, pnl_nil, parg, ppush, pcat, zw_lit, zw_m1, zw_m2, zw_m3, zNC_eq, zrow, pup_app, sh_590, zw_in, q2_in, ptl, Op.lookupswitch.offset, hb, hc, h42, h43, h45, h47, h60, g42, g43, g45, g47, g60])
  all_goals repeat' (with_reducible (first | (refine And.intro ?_ ?_) | intro _))
  all_goals try (refine tr_lab (D := 0) (t := 97) vb_X12_joined_97 _ ve_X12_joined_97 ?_; simp (maxDischargeDepth := 12) [vb_X12_joined_97, wB, wI, k1, kI, kR, kL, k2, pget, pget_pset, pnl_pset, pnl_cons, pnl_nil, parg, ppush, pcat, zw_lit, zw_m1, zw_m2, zw_m3, zNC_eq, zrow, pup_app, sh_590, zw_in, q2_in, ptl, Op.lookupswitch.offset, hb, hc, h42, h43, h45, h47, h60, g42, g43, g45, g47, g60])
  all_goals repeat' (with_reducible (first | (refine And.intro ?_ ?_) | intro _))
  all_goals (first | (split <;> assumption) | exact (q2_in _ _ _) | exact (zw_in _) | (constructor <;> omega) | (unfold zIn; omega) | trivial)
theorem ca_X12_joined {G : zG} {us : Nat} (a b c : Int) (H : PH) (hb : zIn b) (hc : zIn c) : Ca G us 1 190 [(0, a), (0, b), (0, c)] H (fun r H' => H = H' ∧ ∃ x, r = some (0, x) ∧ zIn x) := by
  by_cases h42 : a = 42
  · subst h42
    exact ca_X12_joined_42 b c H hb hc
  by_cases h43 : a = 43
  · subst h43
    exact ca_X12_joined_43 b c H hb hc
  by_cases h45 : a = 45
  · subst h45
    exact ca_X12_joined_45 b c H hb hc
  by_cases h47 : a = 47
  · subst h47
    exact ca_X12_joined_47 b c H hb hc
  by_cases h60 : a = 60
  · subst h60
    exact ca_X12_joined_60 b c H hb hc
  exact ca_X12_joined_d a b c H hb hc h42 h43 h45 h47 h60

theorem ct_X12_joined : CtOK cc_X12_joined := by
  intro G us g H as hg hW ha hp
  obtain ⟨p0, p1, p2, rfl, A0, A1, A2⟩ := aargs3 ha
  obtain ⟨a, rfl, a1, a2, _⟩ := arg_int A0
  obtain ⟨b, rfl, b1, b2, _⟩ := arg_int A1
  obtain ⟨c, rfl, c1, c2, _⟩ := arg_int A2
  refine Ca_use (ca_X12_joined a b c H ⟨b1, by omega⟩ ⟨c1, by omega⟩) (Nat.le_refl _) ?_
  rintro r H' ⟨rfl, x, rfl, hx⟩
  exact fin_plain hW (aval_top hx) (frm_refl _ _)
def cc_X10_skip : aC := (97, 2, [(2, 0, 0, 10), (0, 0, 255, 1)], some (0, 0, 1, 1), [], 0, [10], [], [], [])
set_option maxRecDepth 20000 in
set_option maxHeartbeats 4000000 in
theorem ca_X10_skip {G : zG} {us : Nat} (c : Int) (H : PH) (h0 : 0 ≤ H 213 2) (h1 : H 213 2 ≤ 600) (h2 : H 213 1 ≤ 600) (hc : 0 ≤ c) : Ca G us 2 97 [(2, 213), (0, c)] H (fun r H' => (r = some (0, 0) ∧ H' = pup H 213 3 (H 213 2)) ∨ (r = some (0, 1) ∧ H 213 2 < H 213 1 ∧ H' = pup H 213 2 (H 213 2 + 1))) := by
  have hb := nx_b H
  refine ⟨_, _, _, _, _, _, vm_X10_skip, by simp [pcat], ?_⟩
  refine tr_lab (D := 1) (t := 0) vb_X10_skip_0 _ ve_X10_skip_0 ?_
  simp (maxDischargeDepth := 12) [vb_X10_skip_0, wB, wI, k1, kI, kR, kL, k2, pget, pget_pset, pnl_pset, pnl_cons, pnl_nil, parg, ppush, pcat, zw_lit, zw_m1, zw_m2, zw_m3, zNC_eq, zrow, pup_app, gv_213_2, pe, tg_10_2, zfit, zisI, sh_590, sh_213]
  repeat' (with_reducible (first | (refine And.intro ?_ ?_) | intro _))
  all_goals try (refine Ca_use (ca_X10_next _ (by first | omega | (simp (disch := omega) [pup_app, zw_lit] <;> omega)) (by first | omega | (simp (disch := omega) [pup_app, zw_lit] <;> omega)) (by first | omega | (simp (disch := omega) [pup_app, zw_lit] <;> omega))) (by omega) ?_; rintro _ _ ⟨rfl, rfl⟩; simp (maxDischargeDepth := 12) [wB, wI, k1, kI, kR, kL, k2, pget, pget_pset, pnl_pset, pnl_cons, pnl_nil, parg, ppush, pcat, zw_lit, zw_m1, zw_m2, zw_m3, zNC_eq, zrow, pup_app, gv_213_2, pe, tg_10_2, zfit, zisI, sh_590, sh_213])
  all_goals repeat' (with_reducible (first | (refine And.intro ?_ ?_) | intro _))
  all_goals try (refine Ca_use (ca_X10_fail _ _) (by omega) ?_; rintro _ _ ⟨rfl, rfl⟩; simp (maxDischargeDepth := 12) [wB, wI, k1, kI, kR, kL, k2, pget, pget_pset, pnl_pset, pnl_cons, pnl_nil, parg, ppush, pcat, zw_lit, zw_m1, zw_m2, zw_m3, zNC_eq, zrow, pup_app, gv_213_2, pe, tg_10_2, zfit, zisI, sh_590, sh_213])
  all_goals repeat' (with_reducible (first | (refine And.intro ?_ ?_) | intro _))
  all_goals try (refine tr_lab (D := 1) (t := 17) vb_X10_skip_17 _ ve_X10_skip_17 ?_; simp (maxDischargeDepth := 12) [vb_X10_skip_17, wB, wI, k1, kI, kR, kL, k2, pget, pget_pset, pnl_pset, pnl_cons, pnl_nil, parg, ppush, pcat, zw_lit, zw_m1, zw_m2, zw_m3, zNC_eq, zrow, pup_app, gv_213_2, pe, tg_10_2, zfit, zisI, sh_590, sh_213])
  all_goals repeat' (with_reducible (first | (refine And.intro ?_ ?_) | intro _))
  all_goals (first | omega | ((simp (disch := omega) only [zw_lit]) <;> omega) | (refine ⟨?_, ?_⟩ <;> (first | omega | ((simp (disch := omega) only [zw_lit])))) | (refine Or.inr ⟨?_, ?_⟩ <;> (first | omega | ((simp (disch := omega) only [zw_lit])))))

theorem ct_X10_skip : CtOK cc_X10_skip := by
  intro G us g H as hg hW ha hp
  obtain ⟨p0, p1, rfl, A0, A1⟩ := aargs2 ha
  have e0 := arg_sing (n := 213) A0 rfl
  subst e0
  obtain ⟨c, rfl, c1, c2, _⟩ := arg_int A1
  have t1 := rf_213_1 hW
  have t2 := rf_213_2 hW
  have t3 := rf_213_3 hW
  refine Ca_use (ca_X10_skip c H t2.1 t2.2 t1.2 c1) (Nat.le_refl _) ?_
  rintro r H' (⟨rfl, rfl⟩ | ⟨rfl, hlt, rfl⟩)
  · exact fin_plain (wf_213_3 hW (by omega) (by omega)) (b01 (Or.inl rfl)) (ff_213_3 (frm_refl _ _) rfl)
  · exact fin_plain (wf_213_2 hW (by omega) (by omega)) (b01 (Or.inr rfl)) (ff_213_2 (frm_refl _ _) rfl)
def cc_X10_digitUpTo : aC := (99, 2, [(2, 0, 0, 10), (0, 0, 9, 1)], some (0, -2147483648, 2147483647, 1), [], 0, [10], [], [], [])
set_option maxRecDepth 20000 in
set_option maxHeartbeats 4000000 in
theorem ca_X10_digitUpTo {G : zG} {us : Nat} (m : Int) (H : PH) (h0 : 0 ≤ H 213 2) (h1 : H 213 2 ≤ 600) (h2 : H 213 1 ≤ 600) (hm : m ≤ 9) : Ca G us 2 99 [(2, 213), (0, m)] H (fun r H' => (r = some (0, -1) ∧ H' = pup H 213 3 (H 213 2)) ∨ ((∃ x, r = some (0, x) ∧ 0 ≤ x ∧ x ≤ m) ∧ H 213 2 < H 213 1 ∧ H' = pup H 213 2 (H 213 2 + 1))) := by
  have hb := nx_b H
  refine ⟨_, _, _, _, _, _, vm_X10_digitUpTo, by simp [pcat], ?_⟩
  refine tr_lab (D := 1) (t := 0) vb_X10_digitUpTo_0 _ ve_X10_digitUpTo_0 ?_
  simp (maxDischargeDepth := 12) [vb_X10_digitUpTo_0, wB, wI, k1, kI, kR, kL, k2, pget, pget_pset, pnl_pset, pnl_cons, pnl_nil, parg, ppush, pcat, zw_lit, zw_m1, zw_m2, zw_m3, zNC_eq, zrow, pup_app, gv_213_2, pe, tg_10_2, zfit, zisI, sh_590, sh_213]
  repeat' (with_reducible (first | (refine And.intro ?_ ?_) | intro _))
  all_goals try (refine Ca_use (ca_X10_next _ (by first | omega | (simp (disch := omega) [pup_app, zw_lit] <;> omega)) (by first | omega | (simp (disch := omega) [pup_app, zw_lit] <;> omega)) (by first | omega | (simp (disch := omega) [pup_app, zw_lit] <;> omega))) (by omega) ?_; rintro _ _ ⟨rfl, rfl⟩; simp (maxDischargeDepth := 12) [wB, wI, k1, kI, kR, kL, k2, pget, pget_pset, pnl_pset, pnl_cons, pnl_nil, parg, ppush, pcat, zw_lit, zw_m1, zw_m2, zw_m3, zNC_eq, zrow, pup_app, gv_213_2, pe, tg_10_2, zfit, zisI, sh_590, sh_213])
  all_goals repeat' (with_reducible (first | (refine And.intro ?_ ?_) | intro _))
  all_goals try (refine Ca_use (ca_X11_within _ _ _ _) (by omega) ?_; rintro _ _ ⟨rfl, rfl⟩; simp (maxDischargeDepth := 12) [wB, wI, k1, kI, kR, kL, k2, pget, pget_pset, pnl_pset, pnl_cons, pnl_nil, parg, ppush, pcat, zw_lit, zw_m1, zw_m2, zw_m3, zNC_eq, zrow, pup_app, gv_213_2, pe, tg_10_2, zfit, zisI, sh_590, sh_213])
  all_goals repeat' (with_reducible (first | (refine And.intro ?_ ?_) | intro _))
  all_goals try (refine Ca_use (ca_X10_fail _ _) (by omega) ?_; rintro _ _ ⟨rfl, rfl⟩; simp (maxDischargeDepth := 12) [wB, wI, k1, kI, kR, kL, k2, pget, pget_pset, pnl_pset, pnl_cons, pnl_nil, parg, ppush, pcat, zw_lit, zw_m1, zw_m2, zw_m3, zNC_eq, zrow, pup_app, gv_213_2, pe, tg_10_2, zfit, zisI, sh_590, sh_213])
  all_goals repeat' (with_reducible (first | (refine And.intro ?_ ?_) | intro _))
  all_goals try (refine tr_lab (D := 1) (t := 28) vb_X10_digitUpTo_28 _ ve_X10_digitUpTo_28 ?_; simp (maxDischargeDepth := 12) [vb_X10_digitUpTo_28, wB, wI, k1, kI, kR, kL, k2, pget, pget_pset, pnl_pset, pnl_cons, pnl_nil, parg, ppush, pcat, zw_lit, zw_m1, zw_m2, zw_m3, zNC_eq, zrow, pup_app, gv_213_2, pe, tg_10_2, zfit, zisI, sh_590, sh_213])
  all_goals repeat' (with_reducible (first | (refine And.intro ?_ ?_) | intro _))
  all_goals sorry

theorem ct_X10_digitUpTo : CtOK cc_X10_digitUpTo := by
  intro G us g H as hg hW ha hp
  obtain ⟨p0, p1, rfl, A0, A1⟩ := aargs2 ha
  have e0 := arg_sing (n := 213) A0 rfl
  subst e0
  obtain ⟨c, rfl, c1, c2, _⟩ := arg_int A1
  have t1 := rf_213_1 hW
  have t2 := rf_213_2 hW
  have t3 := rf_213_3 hW
  refine Ca_use (ca_X10_digitUpTo c H t2.1 t2.2 t1.2 c2) (Nat.le_refl _) ?_
  rintro r H' (⟨rfl, rfl⟩ | ⟨⟨x, rfl, hx0, hx1⟩, hlt, rfl⟩)
  · exact fin_plain (wf_213_3 hW (by omega) (by omega)) (vin (by omega) (by omega)) (ff_213_3 (frm_refl _ _) rfl)
  · exact fin_plain (wf_213_2 hW (by omega) (by omega)) (vin (by omega) (by omega)) (ff_213_2 (frm_refl _ _) rfl)
def cc_X10_sign : aC := (102, 3, [(2, 0, 0, 10)], some (0, 0, 36, 1), [], 0, [10], [], [], [])
set_option maxRecDepth 20000 in
set_option maxHeartbeats 4000000 in
theorem ca_X8_codeOf {G : zG} {us : Nat} (c : Int) (H : PH)  : Ca G us 2 73 [(0, c)] H (fun r H' => H = H' ∧ ∃ x, r = some (0, x) ∧ (x = 0 ∨ (48 ≤ c ∧ 1 ≤ x ∧ x ≤ 36))) := by
  refine ⟨_, _, _, _, _, _, vm_X8_codeOf, by simp [pcat], ?_⟩
  refine tr_lab (D := 1) (t := 0) vb_X8_codeOf_0 _ ve_X8_codeOf_0 ?_
  simp (maxDischargeDepth := 12) [vb_X8_codeOf_0, wB, wI, k1, kI, kR, kL, k2, pget, pget_pset, pnl_pset, pnl_cons, pnl_nil, parg, ppush, pcat, zw_lit, zw_m1, zw_m2, zw_m3, zNC_eq, zrow, pup_app, sh_590]
  repeat' (with_reducible (first | (refine And.intro ?_ ?_) | intro _))
  all_goals try (refine Ca_use (ca_X11_within _ _ _ _) (by omega) ?_; rintro _ _ ⟨rfl, rfl⟩; simp (maxDischargeDepth := 12) [wB, wI, k1, kI, kR, kL, k2, pget, pget_pset, pnl_pset, pnl_cons, pnl_nil, parg, ppush, pcat, zw_lit, zw_m1, zw_m2, zw_m3, zNC_eq, zrow, pup_app, sh_590])
  all_goals repeat' (with_reducible (first | (refine And.intro ?_ ?_) | intro _))
  all_goals try (refine tr_lab (D := 1) (t := 18) vb_X8_codeOf_18 _ ve_X8_codeOf_18 ?_; simp (maxDischargeDepth := 12) [vb_X8_codeOf_18, wB, wI, k1, kI, kR, kL, k2, pget, pget_pset, pnl_pset, pnl_cons, pnl_nil, parg, ppush, pcat, zw_lit, zw_m1, zw_m2, zw_m3, zNC_eq, zrow, pup_app, sh_590])
  all_goals repeat' (with_reducible (first | (refine And.intro ?_ ?_) | intro _))
  all_goals try (refine Ca_use (ca_X11_within _ _ _ _) (by omega) ?_; rintro _ _ ⟨rfl, rfl⟩; simp (maxDischargeDepth := 12) [wB, wI, k1, kI, kR, kL, k2, pget, pget_pset, pnl_pset, pnl_cons, pnl_nil, parg, ppush, pcat, zw_lit, zw_m1, zw_m2, zw_m3, zNC_eq, zrow, pup_app, sh_590])
  all_goals repeat' (with_reducible (first | (refine And.intro ?_ ?_) | intro _))
  all_goals try (refine tr_lab (D := 1) (t := 39) vb_X8_codeOf_39 _ ve_X8_codeOf_39 ?_; simp (maxDischargeDepth := 12) [vb_X8_codeOf_39, wB, wI, k1, kI, kR, kL, k2, pget, pget_pset, pnl_pset, pnl_cons, pnl_nil, parg, ppush, pcat, zw_lit, zw_m1, zw_m2, zw_m3, zNC_eq, zrow, pup_app, sh_590])
  all_goals repeat' (with_reducible (first | (refine And.intro ?_ ?_) | intro _))
  all_goals try (refine tr_lab (D := 1) (t := 40) vb_X8_codeOf_40 _ ve_X8_codeOf_40 ?_; simp (maxDischargeDepth := 12) [vb_X8_codeOf_40, wB, wI, k1, kI, kR, kL, k2, pget, pget_pset, pnl_pset, pnl_cons, pnl_nil, parg, ppush, pcat, zw_lit, zw_m1, zw_m2, zw_m3, zNC_eq, zrow, pup_app, sh_590])
  all_goals repeat' (with_reducible (first | (refine And.intro ?_ ?_) | intro _))
  all_goals (first | omega | (simp (disch := omega) only [zw_lit]; omega))

set_option maxRecDepth 20000 in
set_option maxHeartbeats 4000000 in
theorem ca_X10_sign {G : zG} {us : Nat}  (H : PH) (h0 : 0 ≤ H 213 2) (h1 : H 213 2 ≤ 600) (h2 : H 213 1 ≤ 600) : Ca G us 3 102 [(2, 213)] H (fun r H' => (r = some (0, 0) ∧ H' = pup H 213 3 (H 213 2)) ∨ ((∃ x, r = some (0, x) ∧ 0 ≤ x ∧ x ≤ 36) ∧ H 213 2 < H 213 1 ∧ H' = pup H 213 2 (H 213 2 + 1))) := by
  have hb := nx_b H
  refine ⟨_, _, _, _, _, _, vm_X10_sign, by simp [pcat], ?_⟩
  refine tr_lab (D := 2) (t := 0) vb_X10_sign_0 _ ve_X10_sign_0 ?_
  simp (maxDischargeDepth := 12) [vb_X10_sign_0, wB, wI, k1, kI, kR, kL, k2, pget, pget_pset, pnl_pset, pnl_cons, pnl_nil, parg, ppush, pcat, zw_lit, zw_m1, zw_m2, zw_m3, zNC_eq, zrow, pup_app, gv_213_2, pe, tg_10_2, zfit, zisI, sh_590, sh_213]
  repeat' (with_reducible (first | (refine And.intro ?_ ?_) | intro _))
  all_goals try (refine Ca_use (ca_X10_next _ (by first | omega | (simp (disch := omega) [pup_app, zw_lit] <;> omega)) (by first | omega | (simp (disch := omega) [pup_app, zw_lit] <;> omega)) (by first | omega | (simp (disch := omega) [pup_app, zw_lit] <;> omega))) (by omega) ?_; rintro _ _ ⟨rfl, rfl⟩; simp (maxDischargeDepth := 12) [wB, wI, k1, kI, kR, kL, k2, pget, pget_pset, pnl_pset, pnl_cons, pnl_nil, parg, ppush, pcat, zw_lit, zw_m1, zw_m2, zw_m3, zNC_eq, zrow, pup_app, gv_213_2, pe, tg_10_2, zfit, zisI, sh_590, sh_213])
  all_goals repeat' (with_reducible (first | (refine And.intro ?_ ?_) | intro _))
  all_goals try (refine Ca_use (ca_X8_codeOf _ _) (by omega) ?_; rintro _ _ ⟨rfl, x, rfl, hx⟩; simp (maxDischargeDepth := 12) [wB, wI, k1, kI, kR, kL, k2, pget, pget_pset, pnl_pset, pnl_cons, pnl_nil, parg, ppush, pcat, zw_lit, zw_m1, zw_m2, zw_m3, zNC_eq, zrow, pup_app, gv_213_2, pe, tg_10_2, zfit, zisI, sh_590, sh_213])
  all_goals repeat' (with_reducible (first | (refine And.intro ?_ ?_) | intro _))
  all_goals try (refine Ca_use (ca_X10_fail _ _) (by omega) ?_; rintro _ _ ⟨rfl, rfl⟩; simp (maxDischargeDepth := 12) [wB, wI, k1, kI, kR, kL, k2, pget, pget_pset, pnl_pset, pnl_cons, pnl_nil, parg, ppush, pcat, zw_lit, zw_m1, zw_m2, zw_m3, zNC_eq, zrow, pup_app, gv_213_2, pe, tg_10_2, zfit, zisI, sh_590, sh_213])
  all_goals repeat' (with_reducible (first | (refine And.intro ?_ ?_) | intro _))
  all_goals try (refine tr_lab (D := 2) (t := 23) vb_X10_sign_23 _ ve_X10_sign_23 ?_; simp (maxDischargeDepth := 12) [vb_X10_sign_23, wB, wI, k1, kI, kR, kL, k2, pget, pget_pset, pnl_pset, pnl_cons, pnl_nil, parg, ppush, pcat, zw_lit, zw_m1, zw_m2, zw_m3, zNC_eq, zrow, pup_app, gv_213_2, pe, tg_10_2, zfit, zisI, sh_590, sh_213])
  all_goals repeat' (with_reducible (first | (refine And.intro ?_ ?_) | intro _))
  all_goals sorry

theorem ct_X10_sign : CtOK cc_X10_sign := by
  intro G us g H as hg hW ha hp
  obtain ⟨p0, rfl, A0⟩ := aargs1 ha
  have e0 := arg_sing (n := 213) A0 rfl
  subst e0
  have t1 := rf_213_1 hW
  have t2 := rf_213_2 hW
  have t3 := rf_213_3 hW
  refine Ca_use (ca_X10_sign H t2.1 t2.2 t1.2) (Nat.le_refl _) ?_
  rintro r H' (⟨rfl, rfl⟩ | ⟨⟨x, rfl, hx0, hx1⟩, hlt, rfl⟩)
  · exact fin_plain (wf_213_3 hW (by omega) (by omega)) (vin (by omega) (by omega)) (ff_213_3 (frm_refl _ _) rfl)
  · exact fin_plain (wf_213_2 hW (by omega) (by omega)) (vin (by omega) (by omega)) (ff_213_2 (frm_refl _ _) rfl)
