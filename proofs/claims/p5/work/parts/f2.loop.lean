/-! ===== the loop of the law ===== -/
theorem SCR_in {G : zG} {L : Nat} {X : Int → Int} (h : SCR G L X) {j : Int} (j0 : 0 ≤ j) (j1 : j < L) : zIn (X j) := by
  have := (h.2.2 j.toNat (by omega)).2
  rwa [show ((j.toNat : Nat) : Int) = j by omega] at this
set_option maxRecDepth 20000 in
set_option maxHeartbeats 4000000 in
theorem lw_1298 {G : zG} {us : Nat} {g : Nat → Nat → Int} {L : Nat} {X : Int → Int} (hG : SCR G L X) (hL : L ≤ 3072) (i : Int) (i0 : 0 ≤ i) (i1 : i + 6 ≤ L) (ihx : ∀ (ls : PL) (H : PH), pget ls 0 = some (2, -1) → pget ls 1 = some (2, 0) → pget ls 2 = some (2, 590) → pget ls 3 = some (0, i + 6) → TI g H → REL H → Tr G us kd_L_law 33 (zget kd_L_law 18) 18 ls [] H (fun r _ => r = some (0, 1))) : ∀ (ls : PL) (H : PH), pget ls 0 = some (2, -1) → pget ls 1 = some (2, 0) → pget ls 2 = some (2, 590) → pget ls 3 = some (0, i) → TI g H → REL H → Tr G us kd_L_law 33 (zget kd_L_law 1298) 1298 ls [] H (fun r _ => r = some (0, 1)) := by
  intro ls H l0 l1 l2 l3 hT hs
  have z6 : zw (i + 6) = i + 6 := zw_lit (by omega) (by omega)
  refine tr_labL (D := 32) (t := 1298) hG lb_1298 _ le_1298 ?_
  simp (maxDischargeDepth := 12) [lb_1298, z6, wBL, wL, wI, k1, kI, kR, kL, k2, pget, parg, ppush, pcat, zw_lit, zw_m1, zw_m2, zw_m3, zNC_eq, zrow, pget_pss, pget_psx, nlg_some, nlg_none, sh_0, sh_590, l0, l1, l2, l3]
  repeat' (with_reducible (first | (refine And.intro ?_ ?_) | intro _))
  all_goals try ((refine ihx _ _ ?_ ?_ ?_ ?_ ?_ ?_) <;> (try simp (maxDischargeDepth := 12) [pget_pss, pget_psx, nlg_some, nlg_none, l0, l1, l2, l3]))
  all_goals (first | omega | assumption | skip)
set_option maxRecDepth 20000 in
set_option maxHeartbeats 4000000 in
theorem lc_feed {G : zG} {us : Nat} {g : Nat → Nat → Int} {L : Nat} {X : Int → Int} (hG : SCR G L X) (hL : L ≤ 3072) (i : Int) (i0 : 0 ≤ i) (i1 : i + 6 ≤ L) (ihx : ∀ (ls : PL) (H : PH), pget ls 0 = some (2, -1) → pget ls 1 = some (2, 0) → pget ls 2 = some (2, 590) → pget ls 3 = some (0, i + 6) → TI g H → REL H → Tr G us kd_L_law 33 (zget kd_L_law 18) 18 ls [] H (fun r _ => r = some (0, 1))) : ∀ (ls : PL) (H : PH), pget ls 0 = some (2, -1) → pget ls 1 = some (2, 0) → pget ls 2 = some (2, 590) → pget ls 3 = some (0, i) → TI g H → REL H → Tr G us kd_L_law 33 (zget kd_L_law 208) 208 ls [] H (fun r _ => r = some (0, 1)) := by
  intro ls H l0 l1 l2 l3 hT hs
  have z1 : zw (i + 1) = i + 1 := zw_lit (by omega) (by omega)
  have z2 : zw (i + 2) = i + 2 := zw_lit (by omega) (by omega)
  have z3 : zw (i + 3) = i + 3 := zw_lit (by omega) (by omega)
  have z4 : zw (i + 4) = i + 4 := zw_lit (by omega) (by omega)
  have z5 : zw (i + 5) = i + 5 := zw_lit (by omega) (by omega)
  refine tr_labL (D := 32) (t := 208) hG lb_208 _ le_208 ?_
  simp (maxDischargeDepth := 12) [lb_208, wBL, wL, wI, k1, kI, kR, kL, k2, pget, parg, ppush, pcat, zw_lit, zw_m1, zw_m2, zw_m3, zNC_eq, zrow, pget_pss, pget_psx, nlg_some, nlg_none, sh_0, sh_590, l0, l1, l2, l3, z1, z2, z3, z4, z5]
  repeat' (with_reducible (first | (refine And.intro ?_ ?_) | intro _))
  all_goals try (refine Ca_use (rc_feed (X (i + 1)) (X (i + 2)) (X (i + 3)) (X (i + 4)) (X (i + 5)) H hT hs (SCR_in hG (by omega) (by omega)) (SCR_in hG (by omega) (by omega)) (SCR_in hG (by omega) (by omega)) (SCR_in hG (by omega) (by omega)) (SCR_in hG (by omega) (by omega))) (by omega) ?_; rintro _ _ ⟨v, rfl, hT2, hs2⟩; simp (maxDischargeDepth := 12) [lb_208, wBL, wL, wI, k1, kI, kR, kL, k2, pget, parg, ppush, pcat, zw_lit, zw_m1, zw_m2, zw_m3, zNC_eq, zrow, pget_pss, pget_psx, nlg_some, nlg_none, sh_0, sh_590, l0, l1, l2, l3, z1, z2, z3, z4, z5])
  all_goals repeat' (with_reducible (first | (refine And.intro ?_ ?_) | intro _))
  all_goals try (refine Ca_use (rm_feed (X (i + 1)) (X (i + 2)) (X (i + 3)) (X (i + 4)) (X (i + 5)) _ _ hT2 hs2 (SCR_in hG (by omega) (by omega)) (SCR_in hG (by omega) (by omega)) (SCR_in hG (by omega) (by omega)) (SCR_in hG (by omega) (by omega)) (SCR_in hG (by omega) (by omega))) (by omega) ?_; rintro _ _ ⟨rfl, hT3, hs3⟩; simp (maxDischargeDepth := 12) [lb_208, wBL, wL, wI, k1, kI, kR, kL, k2, pget, parg, ppush, pcat, zw_lit, zw_m1, zw_m2, zw_m3, zNC_eq, zrow, pget_pss, pget_psx, nlg_some, nlg_none, sh_0, sh_590, l0, l1, l2, l3, z1, z2, z3, z4, z5])
  all_goals repeat' (with_reducible (first | (refine And.intro ?_ ?_) | intro _))
  all_goals try ((refine lw_1298 hG hL i i0 i1 ihx _ _ ?_ ?_ ?_ ?_ ?_ ?_) <;> (try simp (maxDischargeDepth := 12) [l0, l1, l2, l3]))
  all_goals (first | omega | assumption | decide | skip)
set_option maxRecDepth 20000 in
set_option maxHeartbeats 4000000 in
theorem lc_end {G : zG} {us : Nat} {g : Nat → Nat → Int} {L : Nat} {X : Int → Int} (hG : SCR G L X) (hL : L ≤ 3072) (i : Int) (i0 : 0 ≤ i) (i1 : i + 6 ≤ L) (ihx : ∀ (ls : PL) (H : PH), pget ls 0 = some (2, -1) → pget ls 1 = some (2, 0) → pget ls 2 = some (2, 590) → pget ls 3 = some (0, i + 6) → TI g H → REL H → Tr G us kd_L_law 33 (zget kd_L_law 18) 18 ls [] H (fun r _ => r = some (0, 1))) : ∀ (ls : PL) (H : PH), pget ls 0 = some (2, -1) → pget ls 1 = some (2, 0) → pget ls 2 = some (2, 590) → pget ls 3 = some (0, i) → TI g H → REL H → Tr G us kd_L_law 33 (zget kd_L_law 271) 271 ls [] H (fun r _ => r = some (0, 1)) := by
  intro ls H l0 l1 l2 l3 hT hs
  have z1 : zw (i + 1) = i + 1 := zw_lit (by omega) (by omega)
  have z2 : zw (i + 2) = i + 2 := zw_lit (by omega) (by omega)
  have z3 : zw (i + 3) = i + 3 := zw_lit (by omega) (by omega)
  have z4 : zw (i + 4) = i + 4 := zw_lit (by omega) (by omega)
  have z5 : zw (i + 5) = i + 5 := zw_lit (by omega) (by omega)
  refine tr_labL (D := 32) (t := 271) hG lb_271 _ le_271 ?_
  simp (maxDischargeDepth := 12) [lb_271, wBL, wL, wI, k1, kI, kR, kL, k2, pget, parg, ppush, pcat, zw_lit, zw_m1, zw_m2, zw_m3, zNC_eq, zrow, pget_pss, pget_psx, nlg_some, nlg_none, sh_0, sh_590, l0, l1, l2, l3, z1, z2, z3, z4, z5]
  repeat' (with_reducible (first | (refine And.intro ?_ ?_) | intro _))
  all_goals try (refine Ca_use (rc_end (X (i + 1)) H hT hs (SCR_in hG (by omega) (by omega))) (by omega) ?_; rintro _ _ ⟨v, rfl, hT2, hs2⟩; simp (maxDischargeDepth := 12) [lb_271, wBL, wL, wI, k1, kI, kR, kL, k2, pget, parg, ppush, pcat, zw_lit, zw_m1, zw_m2, zw_m3, zNC_eq, zrow, pget_pss, pget_psx, nlg_some, nlg_none, sh_0, sh_590, l0, l1, l2, l3, z1, z2, z3, z4, z5])
  all_goals repeat' (with_reducible (first | (refine And.intro ?_ ?_) | intro _))
  all_goals try (refine Ca_use (rm_end (X (i + 1)) _ _ hT2 hs2 (SCR_in hG (by omega) (by omega))) (by omega) ?_; rintro _ _ ⟨rfl, hT3, hs3⟩; simp (maxDischargeDepth := 12) [lb_271, wBL, wL, wI, k1, kI, kR, kL, k2, pget, parg, ppush, pcat, zw_lit, zw_m1, zw_m2, zw_m3, zNC_eq, zrow, pget_pss, pget_psx, nlg_some, nlg_none, sh_0, sh_590, l0, l1, l2, l3, z1, z2, z3, z4, z5])
  all_goals repeat' (with_reducible (first | (refine And.intro ?_ ?_) | intro _))
  all_goals try ((refine lw_1298 hG hL i i0 i1 ihx _ _ ?_ ?_ ?_ ?_ ?_ ?_) <;> (try simp (maxDischargeDepth := 12) [l0, l1, l2, l3]))
  all_goals (first | omega | assumption | decide | skip)
set_option maxRecDepth 20000 in
set_option maxHeartbeats 4000000 in
theorem lc_text {G : zG} {us : Nat} {g : Nat → Nat → Int} {L : Nat} {X : Int → Int} (hG : SCR G L X) (hL : L ≤ 3072) (i : Int) (i0 : 0 ≤ i) (i1 : i + 6 ≤ L) (ihx : ∀ (ls : PL) (H : PH), pget ls 0 = some (2, -1) → pget ls 1 = some (2, 0) → pget ls 2 = some (2, 590) → pget ls 3 = some (0, i + 6) → TI g H → REL H → Tr G us kd_L_law 33 (zget kd_L_law 18) 18 ls [] H (fun r _ => r = some (0, 1))) : ∀ (ls : PL) (H : PH), pget ls 0 = some (2, -1) → pget ls 1 = some (2, 0) → pget ls 2 = some (2, 590) → pget ls 3 = some (0, i) → TI g H → REL H → Tr G us kd_L_law 33 (zget kd_L_law 294) 294 ls [] H (fun r _ => r = some (0, 1)) := by
  intro ls H l0 l1 l2 l3 hT hs
  have z1 : zw (i + 1) = i + 1 := zw_lit (by omega) (by omega)
  have z2 : zw (i + 2) = i + 2 := zw_lit (by omega) (by omega)
  have z3 : zw (i + 3) = i + 3 := zw_lit (by omega) (by omega)
  have z4 : zw (i + 4) = i + 4 := zw_lit (by omega) (by omega)
  have z5 : zw (i + 5) = i + 5 := zw_lit (by omega) (by omega)
  refine tr_labL (D := 32) (t := 294) hG lb_294 _ le_294 ?_
  simp (maxDischargeDepth := 12) [lb_294, wBL, wL, wI, k1, kI, kR, kL, k2, pget, parg, ppush, pcat, zw_lit, zw_m1, zw_m2, zw_m3, zNC_eq, zrow, pget_pss, pget_psx, nlg_some, nlg_none, sh_0, sh_590, l0, l1, l2, l3, z1, z2, z3, z4, z5]
  repeat' (with_reducible (first | (refine And.intro ?_ ?_) | intro _))
  all_goals try (refine Ca_use (rc_text  H hT hs ) (by omega) ?_; rintro _ _ ⟨v, rfl, hT2, hs2⟩; simp (maxDischargeDepth := 12) [lb_294, wBL, wL, wI, k1, kI, kR, kL, k2, pget, parg, ppush, pcat, zw_lit, zw_m1, zw_m2, zw_m3, zNC_eq, zrow, pget_pss, pget_psx, nlg_some, nlg_none, sh_0, sh_590, l0, l1, l2, l3, z1, z2, z3, z4, z5])
  all_goals repeat' (with_reducible (first | (refine And.intro ?_ ?_) | intro _))
  all_goals try (refine Ca_use (rm_text _ _ hT2 hs2 ) (by omega) ?_; rintro _ _ ⟨rfl, hT3, hs3⟩; simp (maxDischargeDepth := 12) [lb_294, wBL, wL, wI, k1, kI, kR, kL, k2, pget, parg, ppush, pcat, zw_lit, zw_m1, zw_m2, zw_m3, zNC_eq, zrow, pget_pss, pget_psx, nlg_some, nlg_none, sh_0, sh_590, l0, l1, l2, l3, z1, z2, z3, z4, z5])
  all_goals repeat' (with_reducible (first | (refine And.intro ?_ ?_) | intro _))
  all_goals try ((refine lw_1298 hG hL i i0 i1 ihx _ _ ?_ ?_ ?_ ?_ ?_ ?_) <;> (try simp (maxDischargeDepth := 12) [l0, l1, l2, l3]))
  all_goals (first | omega | assumption | decide | skip)
set_option maxRecDepth 20000 in
set_option maxHeartbeats 4000000 in
theorem lc_law {G : zG} {us : Nat} {g : Nat → Nat → Int} {L : Nat} {X : Int → Int} (hG : SCR G L X) (hL : L ≤ 3072) (i : Int) (i0 : 0 ≤ i) (i1 : i + 6 ≤ L) (ihx : ∀ (ls : PL) (H : PH), pget ls 0 = some (2, -1) → pget ls 1 = some (2, 0) → pget ls 2 = some (2, 590) → pget ls 3 = some (0, i + 6) → TI g H → REL H → Tr G us kd_L_law 33 (zget kd_L_law 18) 18 ls [] H (fun r _ => r = some (0, 1))) : ∀ (ls : PL) (H : PH), pget ls 0 = some (2, -1) → pget ls 1 = some (2, 0) → pget ls 2 = some (2, 590) → pget ls 3 = some (0, i) → TI g H → REL H → Tr G us kd_L_law 33 (zget kd_L_law 307) 307 ls [] H (fun r _ => r = some (0, 1)) := by
  intro ls H l0 l1 l2 l3 hT hs
  have z1 : zw (i + 1) = i + 1 := zw_lit (by omega) (by omega)
  have z2 : zw (i + 2) = i + 2 := zw_lit (by omega) (by omega)
  have z3 : zw (i + 3) = i + 3 := zw_lit (by omega) (by omega)
  have z4 : zw (i + 4) = i + 4 := zw_lit (by omega) (by omega)
  have z5 : zw (i + 5) = i + 5 := zw_lit (by omega) (by omega)
  refine tr_labL (D := 32) (t := 307) hG lb_307 _ le_307 ?_
  simp (maxDischargeDepth := 12) [lb_307, wBL, wL, wI, k1, kI, kR, kL, k2, pget, parg, ppush, pcat, zw_lit, zw_m1, zw_m2, zw_m3, zNC_eq, zrow, pget_pss, pget_psx, nlg_some, nlg_none, sh_0, sh_590, l0, l1, l2, l3, z1, z2, z3, z4, z5]
  repeat' (with_reducible (first | (refine And.intro ?_ ?_) | intro _))
  all_goals try (refine Ca_use (rc_law  H hT hs ) (by omega) ?_; rintro _ _ ⟨v, rfl, hT2, hs2⟩; simp (maxDischargeDepth := 12) [lb_307, wBL, wL, wI, k1, kI, kR, kL, k2, pget, parg, ppush, pcat, zw_lit, zw_m1, zw_m2, zw_m3, zNC_eq, zrow, pget_pss, pget_psx, nlg_some, nlg_none, sh_0, sh_590, l0, l1, l2, l3, z1, z2, z3, z4, z5])
  all_goals repeat' (with_reducible (first | (refine And.intro ?_ ?_) | intro _))
  all_goals try (refine Ca_use (rm_law _ _ hT2 hs2 ) (by omega) ?_; rintro _ _ ⟨rfl, hT3, hs3⟩; simp (maxDischargeDepth := 12) [lb_307, wBL, wL, wI, k1, kI, kR, kL, k2, pget, parg, ppush, pcat, zw_lit, zw_m1, zw_m2, zw_m3, zNC_eq, zrow, pget_pss, pget_psx, nlg_some, nlg_none, sh_0, sh_590, l0, l1, l2, l3, z1, z2, z3, z4, z5])
  all_goals repeat' (with_reducible (first | (refine And.intro ?_ ?_) | intro _))
  all_goals try ((refine lw_1298 hG hL i i0 i1 ihx _ _ ?_ ?_ ?_ ?_ ?_ ?_) <;> (try simp (maxDischargeDepth := 12) [l0, l1, l2, l3]))
  all_goals (first | omega | assumption | decide | skip)
set_option maxRecDepth 20000 in
set_option maxHeartbeats 4000000 in
theorem lc_fault {G : zG} {us : Nat} {g : Nat → Nat → Int} {L : Nat} {X : Int → Int} (hG : SCR G L X) (hL : L ≤ 3072) (i : Int) (i0 : 0 ≤ i) (i1 : i + 6 ≤ L) (ihx : ∀ (ls : PL) (H : PH), pget ls 0 = some (2, -1) → pget ls 1 = some (2, 0) → pget ls 2 = some (2, 590) → pget ls 3 = some (0, i + 6) → TI g H → REL H → Tr G us kd_L_law 33 (zget kd_L_law 18) 18 ls [] H (fun r _ => r = some (0, 1))) : ∀ (ls : PL) (H : PH), pget ls 0 = some (2, -1) → pget ls 1 = some (2, 0) → pget ls 2 = some (2, 590) → pget ls 3 = some (0, i) → TI g H → REL H → Tr G us kd_L_law 33 (zget kd_L_law 320) 320 ls [] H (fun r _ => r = some (0, 1)) := by
  intro ls H l0 l1 l2 l3 hT hs
  have z1 : zw (i + 1) = i + 1 := zw_lit (by omega) (by omega)
  have z2 : zw (i + 2) = i + 2 := zw_lit (by omega) (by omega)
  have z3 : zw (i + 3) = i + 3 := zw_lit (by omega) (by omega)
  have z4 : zw (i + 4) = i + 4 := zw_lit (by omega) (by omega)
  have z5 : zw (i + 5) = i + 5 := zw_lit (by omega) (by omega)
  refine tr_labL (D := 32) (t := 320) hG lb_320 _ le_320 ?_
  simp (maxDischargeDepth := 12) [lb_320, wBL, wL, wI, k1, kI, kR, kL, k2, pget, parg, ppush, pcat, zw_lit, zw_m1, zw_m2, zw_m3, zNC_eq, zrow, pget_pss, pget_psx, nlg_some, nlg_none, sh_0, sh_590, l0, l1, l2, l3, z1, z2, z3, z4, z5]
  repeat' (with_reducible (first | (refine And.intro ?_ ?_) | intro _))
  all_goals try (refine Ca_use (rc_fault  H hT hs ) (by omega) ?_; rintro _ _ ⟨v, rfl, hT2, hs2⟩; simp (maxDischargeDepth := 12) [lb_320, wBL, wL, wI, k1, kI, kR, kL, k2, pget, parg, ppush, pcat, zw_lit, zw_m1, zw_m2, zw_m3, zNC_eq, zrow, pget_pss, pget_psx, nlg_some, nlg_none, sh_0, sh_590, l0, l1, l2, l3, z1, z2, z3, z4, z5])
  all_goals repeat' (with_reducible (first | (refine And.intro ?_ ?_) | intro _))
  all_goals try (refine Ca_use (rm_fault  _ hT2 hs2 ) (by omega) ?_; rintro _ _ ⟨w, rfl, hT3, hs3⟩; simp (maxDischargeDepth := 12) [lb_320, wBL, wL, wI, k1, kI, kR, kL, k2, pget, parg, ppush, pcat, zw_lit, zw_m1, zw_m2, zw_m3, zNC_eq, zrow, pget_pss, pget_psx, nlg_some, nlg_none, sh_0, sh_590, l0, l1, l2, l3, z1, z2, z3, z4, z5])
  all_goals repeat' (with_reducible (first | (refine And.intro ?_ ?_) | intro _))
  all_goals try ((refine lw_1298 hG hL i i0 i1 ihx _ _ ?_ ?_ ?_ ?_ ?_ ?_) <;> (try simp (maxDischargeDepth := 12) [l0, l1, l2, l3]))
  all_goals (first | omega | assumption | decide | skip)
set_option maxRecDepth 20000 in
set_option maxHeartbeats 4000000 in
theorem lc_is {G : zG} {us : Nat} {g : Nat → Nat → Int} {L : Nat} {X : Int → Int} (hG : SCR G L X) (hL : L ≤ 3072) (i : Int) (i0 : 0 ≤ i) (i1 : i + 6 ≤ L) (ihx : ∀ (ls : PL) (H : PH), pget ls 0 = some (2, -1) → pget ls 1 = some (2, 0) → pget ls 2 = some (2, 590) → pget ls 3 = some (0, i + 6) → TI g H → REL H → Tr G us kd_L_law 33 (zget kd_L_law 18) 18 ls [] H (fun r _ => r = some (0, 1))) : ∀ (ls : PL) (H : PH), pget ls 0 = some (2, -1) → pget ls 1 = some (2, 0) → pget ls 2 = some (2, 590) → pget ls 3 = some (0, i) → TI g H → REL H → Tr G us kd_L_law 33 (zget kd_L_law 333) 333 ls [] H (fun r _ => r = some (0, 1)) := by
  intro ls H l0 l1 l2 l3 hT hs
  have z1 : zw (i + 1) = i + 1 := zw_lit (by omega) (by omega)
  have z2 : zw (i + 2) = i + 2 := zw_lit (by omega) (by omega)
  have z3 : zw (i + 3) = i + 3 := zw_lit (by omega) (by omega)
  have z4 : zw (i + 4) = i + 4 := zw_lit (by omega) (by omega)
  have z5 : zw (i + 5) = i + 5 := zw_lit (by omega) (by omega)
  refine tr_labL (D := 32) (t := 333) hG lb_333 _ le_333 ?_
  simp (maxDischargeDepth := 12) [lb_333, wBL, wL, wI, k1, kI, kR, kL, k2, pget, parg, ppush, pcat, zw_lit, zw_m1, zw_m2, zw_m3, zNC_eq, zrow, pget_pss, pget_psx, nlg_some, nlg_none, sh_0, sh_590, l0, l1, l2, l3, z1, z2, z3, z4, z5]
  repeat' (with_reducible (first | (refine And.intro ?_ ?_) | intro _))
  all_goals try (refine Ca_use (rc_is (X (i + 1)) H hT hs (SCR_in hG (by omega) (by omega))) (by omega) ?_; rintro _ _ ⟨v, rfl, hT2, hs2⟩; simp (maxDischargeDepth := 12) [lb_333, wBL, wL, wI, k1, kI, kR, kL, k2, pget, parg, ppush, pcat, zw_lit, zw_m1, zw_m2, zw_m3, zNC_eq, zrow, pget_pss, pget_psx, nlg_some, nlg_none, sh_0, sh_590, l0, l1, l2, l3, z1, z2, z3, z4, z5])
  all_goals repeat' (with_reducible (first | (refine And.intro ?_ ?_) | intro _))
  all_goals try (refine Ca_use (rm_is (X (i + 1)) _ hT2 hs2 (SCR_in hG (by omega) (by omega))) (by omega) ?_; rintro _ _ ⟨w, rfl, hT3, hs3⟩; simp (maxDischargeDepth := 12) [lb_333, wBL, wL, wI, k1, kI, kR, kL, k2, pget, parg, ppush, pcat, zw_lit, zw_m1, zw_m2, zw_m3, zNC_eq, zrow, pget_pss, pget_psx, nlg_some, nlg_none, sh_0, sh_590, l0, l1, l2, l3, z1, z2, z3, z4, z5])
  all_goals repeat' (with_reducible (first | (refine And.intro ?_ ?_) | intro _))
  all_goals try ((refine lw_1298 hG hL i i0 i1 ihx _ _ ?_ ?_ ?_ ?_ ?_ ?_) <;> (try simp (maxDischargeDepth := 12) [l0, l1, l2, l3]))
  all_goals (first | omega | assumption | decide | skip)
set_option maxRecDepth 20000 in
set_option maxHeartbeats 4000000 in
theorem lc_bill {G : zG} {us : Nat} {g : Nat → Nat → Int} {L : Nat} {X : Int → Int} (hG : SCR G L X) (hL : L ≤ 3072) (i : Int) (i0 : 0 ≤ i) (i1 : i + 6 ≤ L) (ihx : ∀ (ls : PL) (H : PH), pget ls 0 = some (2, -1) → pget ls 1 = some (2, 0) → pget ls 2 = some (2, 590) → pget ls 3 = some (0, i + 6) → TI g H → REL H → Tr G us kd_L_law 33 (zget kd_L_law 18) 18 ls [] H (fun r _ => r = some (0, 1))) : ∀ (ls : PL) (H : PH), pget ls 0 = some (2, -1) → pget ls 1 = some (2, 0) → pget ls 2 = some (2, 590) → pget ls 3 = some (0, i) → TI g H → REL H → Tr G us kd_L_law 33 (zget kd_L_law 356) 356 ls [] H (fun r _ => r = some (0, 1)) := by
  intro ls H l0 l1 l2 l3 hT hs
  have z1 : zw (i + 1) = i + 1 := zw_lit (by omega) (by omega)
  have z2 : zw (i + 2) = i + 2 := zw_lit (by omega) (by omega)
  have z3 : zw (i + 3) = i + 3 := zw_lit (by omega) (by omega)
  have z4 : zw (i + 4) = i + 4 := zw_lit (by omega) (by omega)
  have z5 : zw (i + 5) = i + 5 := zw_lit (by omega) (by omega)
  refine tr_labL (D := 32) (t := 356) hG lb_356 _ le_356 ?_
  simp (maxDischargeDepth := 12) [lb_356, wBL, wL, wI, k1, kI, kR, kL, k2, pget, parg, ppush, pcat, zw_lit, zw_m1, zw_m2, zw_m3, zNC_eq, zrow, pget_pss, pget_psx, nlg_some, nlg_none, sh_0, sh_590, l0, l1, l2, l3, z1, z2, z3, z4, z5]
  repeat' (with_reducible (first | (refine And.intro ?_ ?_) | intro _))
  all_goals try (refine Ca_use (rc_bill (X (i + 1)) (X (i + 2)) H hT hs (SCR_in hG (by omega) (by omega)) (SCR_in hG (by omega) (by omega))) (by omega) ?_; rintro _ _ ⟨v, rfl, hT2, hs2⟩; simp (maxDischargeDepth := 12) [lb_356, wBL, wL, wI, k1, kI, kR, kL, k2, pget, parg, ppush, pcat, zw_lit, zw_m1, zw_m2, zw_m3, zNC_eq, zrow, pget_pss, pget_psx, nlg_some, nlg_none, sh_0, sh_590, l0, l1, l2, l3, z1, z2, z3, z4, z5])
  all_goals repeat' (with_reducible (first | (refine And.intro ?_ ?_) | intro _))
  all_goals try (refine Ca_use (rm_bill (X (i + 1)) (X (i + 2)) _ hT2 hs2 (SCR_in hG (by omega) (by omega)) (SCR_in hG (by omega) (by omega))) (by omega) ?_; rintro _ _ ⟨w, rfl, hT3, hs3⟩; simp (maxDischargeDepth := 12) [lb_356, wBL, wL, wI, k1, kI, kR, kL, k2, pget, parg, ppush, pcat, zw_lit, zw_m1, zw_m2, zw_m3, zNC_eq, zrow, pget_pss, pget_psx, nlg_some, nlg_none, sh_0, sh_590, l0, l1, l2, l3, z1, z2, z3, z4, z5])
  all_goals repeat' (with_reducible (first | (refine And.intro ?_ ?_) | intro _))
  all_goals try ((refine lw_1298 hG hL i i0 i1 ihx _ _ ?_ ?_ ?_ ?_ ?_ ?_) <;> (try simp (maxDischargeDepth := 12) [l0, l1, l2, l3]))
  all_goals (first | omega | assumption | decide | skip)
set_option maxRecDepth 20000 in
set_option maxHeartbeats 4000000 in
theorem lc_line {G : zG} {us : Nat} {g : Nat → Nat → Int} {L : Nat} {X : Int → Int} (hG : SCR G L X) (hL : L ≤ 3072) (i : Int) (i0 : 0 ≤ i) (i1 : i + 6 ≤ L) (ihx : ∀ (ls : PL) (H : PH), pget ls 0 = some (2, -1) → pget ls 1 = some (2, 0) → pget ls 2 = some (2, 590) → pget ls 3 = some (0, i + 6) → TI g H → REL H → Tr G us kd_L_law 33 (zget kd_L_law 18) 18 ls [] H (fun r _ => r = some (0, 1))) : ∀ (ls : PL) (H : PH), pget ls 0 = some (2, -1) → pget ls 1 = some (2, 0) → pget ls 2 = some (2, 590) → pget ls 3 = some (0, i) → TI g H → REL H → Tr G us kd_L_law 33 (zget kd_L_law 389) 389 ls [] H (fun r _ => r = some (0, 1)) := by
  intro ls H l0 l1 l2 l3 hT hs
  have z1 : zw (i + 1) = i + 1 := zw_lit (by omega) (by omega)
  have z2 : zw (i + 2) = i + 2 := zw_lit (by omega) (by omega)
  have z3 : zw (i + 3) = i + 3 := zw_lit (by omega) (by omega)
  have z4 : zw (i + 4) = i + 4 := zw_lit (by omega) (by omega)
  have z5 : zw (i + 5) = i + 5 := zw_lit (by omega) (by omega)
  refine tr_labL (D := 32) (t := 389) hG lb_389 _ le_389 ?_
  simp (maxDischargeDepth := 12) [lb_389, wBL, wL, wI, k1, kI, kR, kL, k2, pget, parg, ppush, pcat, zw_lit, zw_m1, zw_m2, zw_m3, zNC_eq, zrow, pget_pss, pget_psx, nlg_some, nlg_none, sh_0, sh_590, l0, l1, l2, l3, z1, z2, z3, z4, z5]
  repeat' (with_reducible (first | (refine And.intro ?_ ?_) | intro _))
  all_goals try (refine Ca_use (rc_line (X (i + 1)) (X (i + 2)) H hT hs (SCR_in hG (by omega) (by omega)) (SCR_in hG (by omega) (by omega))) (by omega) ?_; rintro _ _ ⟨v, rfl, hT2, hs2⟩; simp (maxDischargeDepth := 12) [lb_389, wBL, wL, wI, k1, kI, kR, kL, k2, pget, parg, ppush, pcat, zw_lit, zw_m1, zw_m2, zw_m3, zNC_eq, zrow, pget_pss, pget_psx, nlg_some, nlg_none, sh_0, sh_590, l0, l1, l2, l3, z1, z2, z3, z4, z5])
  all_goals repeat' (with_reducible (first | (refine And.intro ?_ ?_) | intro _))
  all_goals try (refine Ca_use (rm_line (X (i + 1)) (X (i + 2)) _ hT2 hs2 (SCR_in hG (by omega) (by omega)) (SCR_in hG (by omega) (by omega))) (by omega) ?_; rintro _ _ ⟨w, rfl, hT3, hs3⟩; simp (maxDischargeDepth := 12) [lb_389, wBL, wL, wI, k1, kI, kR, kL, k2, pget, parg, ppush, pcat, zw_lit, zw_m1, zw_m2, zw_m3, zNC_eq, zrow, pget_pss, pget_psx, nlg_some, nlg_none, sh_0, sh_590, l0, l1, l2, l3, z1, z2, z3, z4, z5])
  all_goals repeat' (with_reducible (first | (refine And.intro ?_ ?_) | intro _))
  all_goals try ((refine lw_1298 hG hL i i0 i1 ihx _ _ ?_ ?_ ?_ ?_ ?_ ?_) <;> (try simp (maxDischargeDepth := 12) [l0, l1, l2, l3]))
  all_goals (first | omega | assumption | decide | skip)
set_option maxRecDepth 20000 in
set_option maxHeartbeats 4000000 in
theorem lc_apart {G : zG} {us : Nat} {g : Nat → Nat → Int} {L : Nat} {X : Int → Int} (hG : SCR G L X) (hL : L ≤ 3072) (i : Int) (i0 : 0 ≤ i) (i1 : i + 6 ≤ L) (ihx : ∀ (ls : PL) (H : PH), pget ls 0 = some (2, -1) → pget ls 1 = some (2, 0) → pget ls 2 = some (2, 590) → pget ls 3 = some (0, i + 6) → TI g H → REL H → Tr G us kd_L_law 33 (zget kd_L_law 18) 18 ls [] H (fun r _ => r = some (0, 1))) : ∀ (ls : PL) (H : PH), pget ls 0 = some (2, -1) → pget ls 1 = some (2, 0) → pget ls 2 = some (2, 590) → pget ls 3 = some (0, i) → TI g H → REL H → Tr G us kd_L_law 33 (zget kd_L_law 422) 422 ls [] H (fun r _ => r = some (0, 1)) := by
  intro ls H l0 l1 l2 l3 hT hs
  have z1 : zw (i + 1) = i + 1 := zw_lit (by omega) (by omega)
  have z2 : zw (i + 2) = i + 2 := zw_lit (by omega) (by omega)
  have z3 : zw (i + 3) = i + 3 := zw_lit (by omega) (by omega)
  have z4 : zw (i + 4) = i + 4 := zw_lit (by omega) (by omega)
  have z5 : zw (i + 5) = i + 5 := zw_lit (by omega) (by omega)
  refine tr_labL (D := 32) (t := 422) hG lb_422 _ le_422 ?_
  simp (maxDischargeDepth := 12) [lb_422, wBL, wL, wI, k1, kI, kR, kL, k2, pget, parg, ppush, pcat, zw_lit, zw_m1, zw_m2, zw_m3, zNC_eq, zrow, pget_pss, pget_psx, nlg_some, nlg_none, sh_0, sh_590, l0, l1, l2, l3, z1, z2, z3, z4, z5]
  repeat' (with_reducible (first | (refine And.intro ?_ ?_) | intro _))
  all_goals try (refine Ca_use (rc_apart (X (i + 1)) (X (i + 2)) H hT hs (SCR_in hG (by omega) (by omega)) (SCR_in hG (by omega) (by omega))) (by omega) ?_; rintro _ _ ⟨v, rfl, hT2, hs2⟩; simp (maxDischargeDepth := 12) [lb_422, wBL, wL, wI, k1, kI, kR, kL, k2, pget, parg, ppush, pcat, zw_lit, zw_m1, zw_m2, zw_m3, zNC_eq, zrow, pget_pss, pget_psx, nlg_some, nlg_none, sh_0, sh_590, l0, l1, l2, l3, z1, z2, z3, z4, z5])
  all_goals repeat' (with_reducible (first | (refine And.intro ?_ ?_) | intro _))
  all_goals try (refine Ca_use (rm_apart (X (i + 1)) (X (i + 2)) _ hT2 hs2 (SCR_in hG (by omega) (by omega)) (SCR_in hG (by omega) (by omega))) (by omega) ?_; rintro _ _ ⟨w, rfl, hT3, hs3⟩; simp (maxDischargeDepth := 12) [lb_422, wBL, wL, wI, k1, kI, kR, kL, k2, pget, parg, ppush, pcat, zw_lit, zw_m1, zw_m2, zw_m3, zNC_eq, zrow, pget_pss, pget_psx, nlg_some, nlg_none, sh_0, sh_590, l0, l1, l2, l3, z1, z2, z3, z4, z5])
  all_goals repeat' (with_reducible (first | (refine And.intro ?_ ?_) | intro _))
  all_goals try ((refine lw_1298 hG hL i i0 i1 ihx _ _ ?_ ?_ ?_ ?_ ?_ ?_) <;> (try simp (maxDischargeDepth := 12) [l0, l1, l2, l3]))
  all_goals (first | omega | assumption | decide | skip)
set_option maxRecDepth 20000 in
set_option maxHeartbeats 4000000 in
theorem lc_read {G : zG} {us : Nat} {g : Nat → Nat → Int} {L : Nat} {X : Int → Int} (hG : SCR G L X) (hL : L ≤ 3072) (i : Int) (i0 : 0 ≤ i) (i1 : i + 6 ≤ L) (ihx : ∀ (ls : PL) (H : PH), pget ls 0 = some (2, -1) → pget ls 1 = some (2, 0) → pget ls 2 = some (2, 590) → pget ls 3 = some (0, i + 6) → TI g H → REL H → Tr G us kd_L_law 33 (zget kd_L_law 18) 18 ls [] H (fun r _ => r = some (0, 1))) : ∀ (ls : PL) (H : PH), pget ls 0 = some (2, -1) → pget ls 1 = some (2, 0) → pget ls 2 = some (2, 590) → pget ls 3 = some (0, i) → TI g H → REL H → Tr G us kd_L_law 33 (zget kd_L_law 455) 455 ls [] H (fun r _ => r = some (0, 1)) := by
  intro ls H l0 l1 l2 l3 hT hs
  have z1 : zw (i + 1) = i + 1 := zw_lit (by omega) (by omega)
  have z2 : zw (i + 2) = i + 2 := zw_lit (by omega) (by omega)
  have z3 : zw (i + 3) = i + 3 := zw_lit (by omega) (by omega)
  have z4 : zw (i + 4) = i + 4 := zw_lit (by omega) (by omega)
  have z5 : zw (i + 5) = i + 5 := zw_lit (by omega) (by omega)
  refine tr_labL (D := 32) (t := 455) hG lb_455 _ le_455 ?_
  simp (maxDischargeDepth := 12) [lb_455, wBL, wL, wI, k1, kI, kR, kL, k2, pget, parg, ppush, pcat, zw_lit, zw_m1, zw_m2, zw_m3, zNC_eq, zrow, pget_pss, pget_psx, nlg_some, nlg_none, sh_0, sh_590, l0, l1, l2, l3, z1, z2, z3, z4, z5]
  repeat' (with_reducible (first | (refine And.intro ?_ ?_) | intro _))
  all_goals try (refine Ca_use (rc_read (X (i + 1)) H hT hs (SCR_in hG (by omega) (by omega))) (by omega) ?_; rintro _ _ ⟨v, rfl, hT2, hs2⟩; simp (maxDischargeDepth := 12) [lb_455, wBL, wL, wI, k1, kI, kR, kL, k2, pget, parg, ppush, pcat, zw_lit, zw_m1, zw_m2, zw_m3, zNC_eq, zrow, pget_pss, pget_psx, nlg_some, nlg_none, sh_0, sh_590, l0, l1, l2, l3, z1, z2, z3, z4, z5])
  all_goals repeat' (with_reducible (first | (refine And.intro ?_ ?_) | intro _))
  all_goals try (refine Ca_use (rm_read (X (i + 1)) _ hT2 hs2 (SCR_in hG (by omega) (by omega))) (by omega) ?_; rintro _ _ ⟨w, rfl, hT3, hs3⟩; simp (maxDischargeDepth := 12) [lb_455, wBL, wL, wI, k1, kI, kR, kL, k2, pget, parg, ppush, pcat, zw_lit, zw_m1, zw_m2, zw_m3, zNC_eq, zrow, pget_pss, pget_psx, nlg_some, nlg_none, sh_0, sh_590, l0, l1, l2, l3, z1, z2, z3, z4, z5])
  all_goals repeat' (with_reducible (first | (refine And.intro ?_ ?_) | intro _))
  all_goals try ((refine lw_1298 hG hL i i0 i1 ihx _ _ ?_ ?_ ?_ ?_ ?_ ?_) <;> (try simp (maxDischargeDepth := 12) [l0, l1, l2, l3]))
  all_goals (first | omega | assumption | decide | skip)
set_option maxRecDepth 20000 in
set_option maxHeartbeats 4000000 in
theorem lc_least {G : zG} {us : Nat} {g : Nat → Nat → Int} {L : Nat} {X : Int → Int} (hG : SCR G L X) (hL : L ≤ 3072) (i : Int) (i0 : 0 ≤ i) (i1 : i + 6 ≤ L) (ihx : ∀ (ls : PL) (H : PH), pget ls 0 = some (2, -1) → pget ls 1 = some (2, 0) → pget ls 2 = some (2, 590) → pget ls 3 = some (0, i + 6) → TI g H → REL H → Tr G us kd_L_law 33 (zget kd_L_law 18) 18 ls [] H (fun r _ => r = some (0, 1))) : ∀ (ls : PL) (H : PH), pget ls 0 = some (2, -1) → pget ls 1 = some (2, 0) → pget ls 2 = some (2, 590) → pget ls 3 = some (0, i) → TI g H → REL H → Tr G us kd_L_law 33 (zget kd_L_law 478) 478 ls [] H (fun r _ => r = some (0, 1)) := by
  intro ls H l0 l1 l2 l3 hT hs
  have z1 : zw (i + 1) = i + 1 := zw_lit (by omega) (by omega)
  have z2 : zw (i + 2) = i + 2 := zw_lit (by omega) (by omega)
  have z3 : zw (i + 3) = i + 3 := zw_lit (by omega) (by omega)
  have z4 : zw (i + 4) = i + 4 := zw_lit (by omega) (by omega)
  have z5 : zw (i + 5) = i + 5 := zw_lit (by omega) (by omega)
  refine tr_labL (D := 32) (t := 478) hG lb_478 _ le_478 ?_
  simp (maxDischargeDepth := 12) [lb_478, wBL, wL, wI, k1, kI, kR, kL, k2, pget, parg, ppush, pcat, zw_lit, zw_m1, zw_m2, zw_m3, zNC_eq, zrow, pget_pss, pget_psx, nlg_some, nlg_none, sh_0, sh_590, l0, l1, l2, l3, z1, z2, z3, z4, z5]
  repeat' (with_reducible (first | (refine And.intro ?_ ?_) | intro _))
  all_goals try (refine Ca_use (rc_least (X (i + 1)) H hT hs (SCR_in hG (by omega) (by omega))) (by omega) ?_; rintro _ _ ⟨v, rfl, hT2, hs2⟩; simp (maxDischargeDepth := 12) [lb_478, wBL, wL, wI, k1, kI, kR, kL, k2, pget, parg, ppush, pcat, zw_lit, zw_m1, zw_m2, zw_m3, zNC_eq, zrow, pget_pss, pget_psx, nlg_some, nlg_none, sh_0, sh_590, l0, l1, l2, l3, z1, z2, z3, z4, z5])
  all_goals repeat' (with_reducible (first | (refine And.intro ?_ ?_) | intro _))
  all_goals try (refine Ca_use (rm_least (X (i + 1)) _ hT2 hs2 (SCR_in hG (by omega) (by omega))) (by omega) ?_; rintro _ _ ⟨w, rfl, hT3, hs3⟩; simp (maxDischargeDepth := 12) [lb_478, wBL, wL, wI, k1, kI, kR, kL, k2, pget, parg, ppush, pcat, zw_lit, zw_m1, zw_m2, zw_m3, zNC_eq, zrow, pget_pss, pget_psx, nlg_some, nlg_none, sh_0, sh_590, l0, l1, l2, l3, z1, z2, z3, z4, z5])
  all_goals repeat' (with_reducible (first | (refine And.intro ?_ ?_) | intro _))
  all_goals try ((refine lw_1298 hG hL i i0 i1 ihx _ _ ?_ ?_ ?_ ?_ ?_ ?_) <;> (try simp (maxDischargeDepth := 12) [l0, l1, l2, l3]))
  all_goals (first | omega | assumption | decide | skip)
set_option maxRecDepth 20000 in
set_option maxHeartbeats 4000000 in
theorem lc_heap {G : zG} {us : Nat} {g : Nat → Nat → Int} {L : Nat} {X : Int → Int} (hG : SCR G L X) (hL : L ≤ 3072) (i : Int) (i0 : 0 ≤ i) (i1 : i + 6 ≤ L) (ihx : ∀ (ls : PL) (H : PH), pget ls 0 = some (2, -1) → pget ls 1 = some (2, 0) → pget ls 2 = some (2, 590) → pget ls 3 = some (0, i + 6) → TI g H → REL H → Tr G us kd_L_law 33 (zget kd_L_law 18) 18 ls [] H (fun r _ => r = some (0, 1))) : ∀ (ls : PL) (H : PH), pget ls 0 = some (2, -1) → pget ls 1 = some (2, 0) → pget ls 2 = some (2, 590) → pget ls 3 = some (0, i) → TI g H → REL H → Tr G us kd_L_law 33 (zget kd_L_law 501) 501 ls [] H (fun r _ => r = some (0, 1)) := by
  intro ls H l0 l1 l2 l3 hT hs
  have z1 : zw (i + 1) = i + 1 := zw_lit (by omega) (by omega)
  have z2 : zw (i + 2) = i + 2 := zw_lit (by omega) (by omega)
  have z3 : zw (i + 3) = i + 3 := zw_lit (by omega) (by omega)
  have z4 : zw (i + 4) = i + 4 := zw_lit (by omega) (by omega)
  have z5 : zw (i + 5) = i + 5 := zw_lit (by omega) (by omega)
  refine tr_labL (D := 32) (t := 501) hG lb_501 _ le_501 ?_
  simp (maxDischargeDepth := 12) [lb_501, wBL, wL, wI, k1, kI, kR, kL, k2, pget, parg, ppush, pcat, zw_lit, zw_m1, zw_m2, zw_m3, zNC_eq, zrow, pget_pss, pget_psx, nlg_some, nlg_none, sh_0, sh_590, l0, l1, l2, l3, z1, z2, z3, z4, z5]
  repeat' (with_reducible (first | (refine And.intro ?_ ?_) | intro _))
  all_goals try (refine Ca_use (rc_heap (X (i + 1)) (X (i + 2)) H hT hs (SCR_in hG (by omega) (by omega)) (SCR_in hG (by omega) (by omega))) (by omega) ?_; rintro _ _ ⟨v, rfl, hT2, hs2⟩; simp (maxDischargeDepth := 12) [lb_501, wBL, wL, wI, k1, kI, kR, kL, k2, pget, parg, ppush, pcat, zw_lit, zw_m1, zw_m2, zw_m3, zNC_eq, zrow, pget_pss, pget_psx, nlg_some, nlg_none, sh_0, sh_590, l0, l1, l2, l3, z1, z2, z3, z4, z5])
  all_goals repeat' (with_reducible (first | (refine And.intro ?_ ?_) | intro _))
  all_goals try (refine Ca_use (rm_heap (X (i + 1)) (X (i + 2)) _ hT2 hs2 (SCR_in hG (by omega) (by omega)) (SCR_in hG (by omega) (by omega))) (by omega) ?_; rintro _ _ ⟨w, rfl, hT3, hs3⟩; simp (maxDischargeDepth := 12) [lb_501, wBL, wL, wI, k1, kI, kR, kL, k2, pget, parg, ppush, pcat, zw_lit, zw_m1, zw_m2, zw_m3, zNC_eq, zrow, pget_pss, pget_psx, nlg_some, nlg_none, sh_0, sh_590, l0, l1, l2, l3, z1, z2, z3, z4, z5])
  all_goals repeat' (with_reducible (first | (refine And.intro ?_ ?_) | intro _))
  all_goals try ((refine lw_1298 hG hL i i0 i1 ihx _ _ ?_ ?_ ?_ ?_ ?_ ?_) <;> (try simp (maxDischargeDepth := 12) [l0, l1, l2, l3]))
  all_goals (first | omega | assumption | decide | skip)
set_option maxRecDepth 20000 in
set_option maxHeartbeats 4000000 in
theorem lc_tally {G : zG} {us : Nat} {g : Nat → Nat → Int} {L : Nat} {X : Int → Int} (hG : SCR G L X) (hL : L ≤ 3072) (i : Int) (i0 : 0 ≤ i) (i1 : i + 6 ≤ L) (ihx : ∀ (ls : PL) (H : PH), pget ls 0 = some (2, -1) → pget ls 1 = some (2, 0) → pget ls 2 = some (2, 590) → pget ls 3 = some (0, i + 6) → TI g H → REL H → Tr G us kd_L_law 33 (zget kd_L_law 18) 18 ls [] H (fun r _ => r = some (0, 1))) : ∀ (ls : PL) (H : PH), pget ls 0 = some (2, -1) → pget ls 1 = some (2, 0) → pget ls 2 = some (2, 590) → pget ls 3 = some (0, i) → TI g H → REL H → Tr G us kd_L_law 33 (zget kd_L_law 534) 534 ls [] H (fun r _ => r = some (0, 1)) := by
  intro ls H l0 l1 l2 l3 hT hs
  have z1 : zw (i + 1) = i + 1 := zw_lit (by omega) (by omega)
  have z2 : zw (i + 2) = i + 2 := zw_lit (by omega) (by omega)
  have z3 : zw (i + 3) = i + 3 := zw_lit (by omega) (by omega)
  have z4 : zw (i + 4) = i + 4 := zw_lit (by omega) (by omega)
  have z5 : zw (i + 5) = i + 5 := zw_lit (by omega) (by omega)
  refine tr_labL (D := 32) (t := 534) hG lb_534 _ le_534 ?_
  simp (maxDischargeDepth := 12) [lb_534, wBL, wL, wI, k1, kI, kR, kL, k2, pget, parg, ppush, pcat, zw_lit, zw_m1, zw_m2, zw_m3, zNC_eq, zrow, pget_pss, pget_psx, nlg_some, nlg_none, sh_0, sh_590, l0, l1, l2, l3, z1, z2, z3, z4, z5]
  repeat' (with_reducible (first | (refine And.intro ?_ ?_) | intro _))
  all_goals try (refine Ca_use (rc_tally (X (i + 1)) (X (i + 2)) H hT hs (SCR_in hG (by omega) (by omega)) (SCR_in hG (by omega) (by omega))) (by omega) ?_; rintro _ _ ⟨v, rfl, hT2, hs2⟩; simp (maxDischargeDepth := 12) [lb_534, wBL, wL, wI, k1, kI, kR, kL, k2, pget, parg, ppush, pcat, zw_lit, zw_m1, zw_m2, zw_m3, zNC_eq, zrow, pget_pss, pget_psx, nlg_some, nlg_none, sh_0, sh_590, l0, l1, l2, l3, z1, z2, z3, z4, z5])
  all_goals repeat' (with_reducible (first | (refine And.intro ?_ ?_) | intro _))
  all_goals try (refine Ca_use (rm_tally (X (i + 1)) (X (i + 2)) _ hT2 hs2 (SCR_in hG (by omega) (by omega)) (SCR_in hG (by omega) (by omega))) (by omega) ?_; rintro _ _ ⟨w, rfl, hT3, hs3⟩; simp (maxDischargeDepth := 12) [lb_534, wBL, wL, wI, k1, kI, kR, kL, k2, pget, parg, ppush, pcat, zw_lit, zw_m1, zw_m2, zw_m3, zNC_eq, zrow, pget_pss, pget_psx, nlg_some, nlg_none, sh_0, sh_590, l0, l1, l2, l3, z1, z2, z3, z4, z5])
  all_goals repeat' (with_reducible (first | (refine And.intro ?_ ?_) | intro _))
  all_goals try ((refine lw_1298 hG hL i i0 i1 ihx _ _ ?_ ?_ ?_ ?_ ?_ ?_) <;> (try simp (maxDischargeDepth := 12) [l0, l1, l2, l3]))
  all_goals (first | omega | assumption | decide | skip)
set_option maxRecDepth 20000 in
set_option maxHeartbeats 4000000 in
theorem lc_brought {G : zG} {us : Nat} {g : Nat → Nat → Int} {L : Nat} {X : Int → Int} (hG : SCR G L X) (hL : L ≤ 3072) (i : Int) (i0 : 0 ≤ i) (i1 : i + 6 ≤ L) (ihx : ∀ (ls : PL) (H : PH), pget ls 0 = some (2, -1) → pget ls 1 = some (2, 0) → pget ls 2 = some (2, 590) → pget ls 3 = some (0, i + 6) → TI g H → REL H → Tr G us kd_L_law 33 (zget kd_L_law 18) 18 ls [] H (fun r _ => r = some (0, 1))) : ∀ (ls : PL) (H : PH), pget ls 0 = some (2, -1) → pget ls 1 = some (2, 0) → pget ls 2 = some (2, 590) → pget ls 3 = some (0, i) → TI g H → REL H → Tr G us kd_L_law 33 (zget kd_L_law 567) 567 ls [] H (fun r _ => r = some (0, 1)) := by
  intro ls H l0 l1 l2 l3 hT hs
  have z1 : zw (i + 1) = i + 1 := zw_lit (by omega) (by omega)
  have z2 : zw (i + 2) = i + 2 := zw_lit (by omega) (by omega)
  have z3 : zw (i + 3) = i + 3 := zw_lit (by omega) (by omega)
  have z4 : zw (i + 4) = i + 4 := zw_lit (by omega) (by omega)
  have z5 : zw (i + 5) = i + 5 := zw_lit (by omega) (by omega)
  refine tr_labL (D := 32) (t := 567) hG lb_567 _ le_567 ?_
  simp (maxDischargeDepth := 12) [lb_567, wBL, wL, wI, k1, kI, kR, kL, k2, pget, parg, ppush, pcat, zw_lit, zw_m1, zw_m2, zw_m3, zNC_eq, zrow, pget_pss, pget_psx, nlg_some, nlg_none, sh_0, sh_590, l0, l1, l2, l3, z1, z2, z3, z4, z5]
  repeat' (with_reducible (first | (refine And.intro ?_ ?_) | intro _))
  all_goals try (refine Ca_use (rc_brought (X (i + 1)) (X (i + 2)) H hT hs (SCR_in hG (by omega) (by omega)) (SCR_in hG (by omega) (by omega))) (by omega) ?_; rintro _ _ ⟨v, rfl, hT2, hs2⟩; simp (maxDischargeDepth := 12) [lb_567, wBL, wL, wI, k1, kI, kR, kL, k2, pget, parg, ppush, pcat, zw_lit, zw_m1, zw_m2, zw_m3, zNC_eq, zrow, pget_pss, pget_psx, nlg_some, nlg_none, sh_0, sh_590, l0, l1, l2, l3, z1, z2, z3, z4, z5])
  all_goals repeat' (with_reducible (first | (refine And.intro ?_ ?_) | intro _))
  all_goals try (refine Ca_use (rm_brought (X (i + 1)) (X (i + 2)) _ hT2 hs2 (SCR_in hG (by omega) (by omega)) (SCR_in hG (by omega) (by omega))) (by omega) ?_; rintro _ _ ⟨w, rfl, hT3, hs3⟩; simp (maxDischargeDepth := 12) [lb_567, wBL, wL, wI, k1, kI, kR, kL, k2, pget, parg, ppush, pcat, zw_lit, zw_m1, zw_m2, zw_m3, zNC_eq, zrow, pget_pss, pget_psx, nlg_some, nlg_none, sh_0, sh_590, l0, l1, l2, l3, z1, z2, z3, z4, z5])
  all_goals repeat' (with_reducible (first | (refine And.intro ?_ ?_) | intro _))
  all_goals try ((refine lw_1298 hG hL i i0 i1 ihx _ _ ?_ ?_ ?_ ?_ ?_ ?_) <;> (try simp (maxDischargeDepth := 12) [l0, l1, l2, l3]))
  all_goals (first | omega | assumption | decide | skip)
set_option maxRecDepth 20000 in
set_option maxHeartbeats 4000000 in
theorem lc_matched {G : zG} {us : Nat} {g : Nat → Nat → Int} {L : Nat} {X : Int → Int} (hG : SCR G L X) (hL : L ≤ 3072) (i : Int) (i0 : 0 ≤ i) (i1 : i + 6 ≤ L) (ihx : ∀ (ls : PL) (H : PH), pget ls 0 = some (2, -1) → pget ls 1 = some (2, 0) → pget ls 2 = some (2, 590) → pget ls 3 = some (0, i + 6) → TI g H → REL H → Tr G us kd_L_law 33 (zget kd_L_law 18) 18 ls [] H (fun r _ => r = some (0, 1))) : ∀ (ls : PL) (H : PH), pget ls 0 = some (2, -1) → pget ls 1 = some (2, 0) → pget ls 2 = some (2, 590) → pget ls 3 = some (0, i) → TI g H → REL H → Tr G us kd_L_law 33 (zget kd_L_law 600) 600 ls [] H (fun r _ => r = some (0, 1)) := by
  intro ls H l0 l1 l2 l3 hT hs
  have z1 : zw (i + 1) = i + 1 := zw_lit (by omega) (by omega)
  have z2 : zw (i + 2) = i + 2 := zw_lit (by omega) (by omega)
  have z3 : zw (i + 3) = i + 3 := zw_lit (by omega) (by omega)
  have z4 : zw (i + 4) = i + 4 := zw_lit (by omega) (by omega)
  have z5 : zw (i + 5) = i + 5 := zw_lit (by omega) (by omega)
  refine tr_labL (D := 32) (t := 600) hG lb_600 _ le_600 ?_
  simp (maxDischargeDepth := 12) [lb_600, wBL, wL, wI, k1, kI, kR, kL, k2, pget, parg, ppush, pcat, zw_lit, zw_m1, zw_m2, zw_m3, zNC_eq, zrow, pget_pss, pget_psx, nlg_some, nlg_none, sh_0, sh_590, l0, l1, l2, l3, z1, z2, z3, z4, z5]
  repeat' (with_reducible (first | (refine And.intro ?_ ?_) | intro _))
  all_goals try (refine Ca_use (rc_matched (X (i + 1)) H hT hs (SCR_in hG (by omega) (by omega))) (by omega) ?_; rintro _ _ ⟨v, rfl, hT2, hs2⟩; simp (maxDischargeDepth := 12) [lb_600, wBL, wL, wI, k1, kI, kR, kL, k2, pget, parg, ppush, pcat, zw_lit, zw_m1, zw_m2, zw_m3, zNC_eq, zrow, pget_pss, pget_psx, nlg_some, nlg_none, sh_0, sh_590, l0, l1, l2, l3, z1, z2, z3, z4, z5])
  all_goals repeat' (with_reducible (first | (refine And.intro ?_ ?_) | intro _))
  all_goals try (refine Ca_use (rm_matched (X (i + 1)) _ hT2 hs2 (SCR_in hG (by omega) (by omega))) (by omega) ?_; rintro _ _ ⟨w, rfl, hT3, hs3⟩; simp (maxDischargeDepth := 12) [lb_600, wBL, wL, wI, k1, kI, kR, kL, k2, pget, parg, ppush, pcat, zw_lit, zw_m1, zw_m2, zw_m3, zNC_eq, zrow, pget_pss, pget_psx, nlg_some, nlg_none, sh_0, sh_590, l0, l1, l2, l3, z1, z2, z3, z4, z5])
  all_goals repeat' (with_reducible (first | (refine And.intro ?_ ?_) | intro _))
  all_goals try ((refine lw_1298 hG hL i i0 i1 ihx _ _ ?_ ?_ ?_ ?_ ?_ ?_) <;> (try simp (maxDischargeDepth := 12) [l0, l1, l2, l3]))
  all_goals (first | omega | assumption | decide | skip)
set_option maxRecDepth 20000 in
set_option maxHeartbeats 4000000 in
theorem lc_best {G : zG} {us : Nat} {g : Nat → Nat → Int} {L : Nat} {X : Int → Int} (hG : SCR G L X) (hL : L ≤ 3072) (i : Int) (i0 : 0 ≤ i) (i1 : i + 6 ≤ L) (ihx : ∀ (ls : PL) (H : PH), pget ls 0 = some (2, -1) → pget ls 1 = some (2, 0) → pget ls 2 = some (2, 590) → pget ls 3 = some (0, i + 6) → TI g H → REL H → Tr G us kd_L_law 33 (zget kd_L_law 18) 18 ls [] H (fun r _ => r = some (0, 1))) : ∀ (ls : PL) (H : PH), pget ls 0 = some (2, -1) → pget ls 1 = some (2, 0) → pget ls 2 = some (2, 590) → pget ls 3 = some (0, i) → TI g H → REL H → Tr G us kd_L_law 33 (zget kd_L_law 623) 623 ls [] H (fun r _ => r = some (0, 1)) := by
  intro ls H l0 l1 l2 l3 hT hs
  have z1 : zw (i + 1) = i + 1 := zw_lit (by omega) (by omega)
  have z2 : zw (i + 2) = i + 2 := zw_lit (by omega) (by omega)
  have z3 : zw (i + 3) = i + 3 := zw_lit (by omega) (by omega)
  have z4 : zw (i + 4) = i + 4 := zw_lit (by omega) (by omega)
  have z5 : zw (i + 5) = i + 5 := zw_lit (by omega) (by omega)
  refine tr_labL (D := 32) (t := 623) hG lb_623 _ le_623 ?_
  simp (maxDischargeDepth := 12) [lb_623, wBL, wL, wI, k1, kI, kR, kL, k2, pget, parg, ppush, pcat, zw_lit, zw_m1, zw_m2, zw_m3, zNC_eq, zrow, pget_pss, pget_psx, nlg_some, nlg_none, sh_0, sh_590, l0, l1, l2, l3, z1, z2, z3, z4, z5]
  repeat' (with_reducible (first | (refine And.intro ?_ ?_) | intro _))
  all_goals try (refine Ca_use (rc_best (X (i + 1)) H hT hs (SCR_in hG (by omega) (by omega))) (by omega) ?_; rintro _ _ ⟨v, rfl, hT2, hs2⟩; simp (maxDischargeDepth := 12) [lb_623, wBL, wL, wI, k1, kI, kR, kL, k2, pget, parg, ppush, pcat, zw_lit, zw_m1, zw_m2, zw_m3, zNC_eq, zrow, pget_pss, pget_psx, nlg_some, nlg_none, sh_0, sh_590, l0, l1, l2, l3, z1, z2, z3, z4, z5])
  all_goals repeat' (with_reducible (first | (refine And.intro ?_ ?_) | intro _))
  all_goals try (refine Ca_use (rm_best (X (i + 1)) _ hT2 hs2 (SCR_in hG (by omega) (by omega))) (by omega) ?_; rintro _ _ ⟨w, rfl, hT3, hs3⟩; simp (maxDischargeDepth := 12) [lb_623, wBL, wL, wI, k1, kI, kR, kL, k2, pget, parg, ppush, pcat, zw_lit, zw_m1, zw_m2, zw_m3, zNC_eq, zrow, pget_pss, pget_psx, nlg_some, nlg_none, sh_0, sh_590, l0, l1, l2, l3, z1, z2, z3, z4, z5])
  all_goals repeat' (with_reducible (first | (refine And.intro ?_ ?_) | intro _))
  all_goals try ((refine lw_1298 hG hL i i0 i1 ihx _ _ ?_ ?_ ?_ ?_ ?_ ?_) <;> (try simp (maxDischargeDepth := 12) [l0, l1, l2, l3]))
  all_goals (first | omega | assumption | decide | skip)
set_option maxRecDepth 20000 in
set_option maxHeartbeats 4000000 in
theorem lc_remark {G : zG} {us : Nat} {g : Nat → Nat → Int} {L : Nat} {X : Int → Int} (hG : SCR G L X) (hL : L ≤ 3072) (i : Int) (i0 : 0 ≤ i) (i1 : i + 6 ≤ L) (ihx : ∀ (ls : PL) (H : PH), pget ls 0 = some (2, -1) → pget ls 1 = some (2, 0) → pget ls 2 = some (2, 590) → pget ls 3 = some (0, i + 6) → TI g H → REL H → Tr G us kd_L_law 33 (zget kd_L_law 18) 18 ls [] H (fun r _ => r = some (0, 1))) : ∀ (ls : PL) (H : PH), pget ls 0 = some (2, -1) → pget ls 1 = some (2, 0) → pget ls 2 = some (2, 590) → pget ls 3 = some (0, i) → TI g H → REL H → Tr G us kd_L_law 33 (zget kd_L_law 646) 646 ls [] H (fun r _ => r = some (0, 1)) := by
  intro ls H l0 l1 l2 l3 hT hs
  have z1 : zw (i + 1) = i + 1 := zw_lit (by omega) (by omega)
  have z2 : zw (i + 2) = i + 2 := zw_lit (by omega) (by omega)
  have z3 : zw (i + 3) = i + 3 := zw_lit (by omega) (by omega)
  have z4 : zw (i + 4) = i + 4 := zw_lit (by omega) (by omega)
  have z5 : zw (i + 5) = i + 5 := zw_lit (by omega) (by omega)
  refine tr_labL (D := 32) (t := 646) hG lb_646 _ le_646 ?_
  simp (maxDischargeDepth := 12) [lb_646, wBL, wL, wI, k1, kI, kR, kL, k2, pget, parg, ppush, pcat, zw_lit, zw_m1, zw_m2, zw_m3, zNC_eq, zrow, pget_pss, pget_psx, nlg_some, nlg_none, sh_0, sh_590, l0, l1, l2, l3, z1, z2, z3, z4, z5]
  repeat' (with_reducible (first | (refine And.intro ?_ ?_) | intro _))
  all_goals try (refine Ca_use (rc_remark (X (i + 1)) (X (i + 2)) (X (i + 3)) H hT hs (SCR_in hG (by omega) (by omega)) (SCR_in hG (by omega) (by omega)) (SCR_in hG (by omega) (by omega))) (by omega) ?_; rintro _ _ ⟨v, rfl, hT2, hs2⟩; simp (maxDischargeDepth := 12) [lb_646, wBL, wL, wI, k1, kI, kR, kL, k2, pget, parg, ppush, pcat, zw_lit, zw_m1, zw_m2, zw_m3, zNC_eq, zrow, pget_pss, pget_psx, nlg_some, nlg_none, sh_0, sh_590, l0, l1, l2, l3, z1, z2, z3, z4, z5])
  all_goals repeat' (with_reducible (first | (refine And.intro ?_ ?_) | intro _))
  all_goals try (refine Ca_use (rm_remark (X (i + 1)) (X (i + 2)) (X (i + 3)) _ _ hT2 hs2 (SCR_in hG (by omega) (by omega)) (SCR_in hG (by omega) (by omega)) (SCR_in hG (by omega) (by omega))) (by omega) ?_; rintro _ _ ⟨rfl, hT3, hs3⟩; simp (maxDischargeDepth := 12) [lb_646, wBL, wL, wI, k1, kI, kR, kL, k2, pget, parg, ppush, pcat, zw_lit, zw_m1, zw_m2, zw_m3, zNC_eq, zrow, pget_pss, pget_psx, nlg_some, nlg_none, sh_0, sh_590, l0, l1, l2, l3, z1, z2, z3, z4, z5])
  all_goals repeat' (with_reducible (first | (refine And.intro ?_ ?_) | intro _))
  all_goals try ((refine lw_1298 hG hL i i0 i1 ihx _ _ ?_ ?_ ?_ ?_ ?_ ?_) <;> (try simp (maxDischargeDepth := 12) [l0, l1, l2, l3]))
  all_goals (first | omega | assumption | decide | skip)
set_option maxRecDepth 20000 in
set_option maxHeartbeats 4000000 in
theorem lc_remarked {G : zG} {us : Nat} {g : Nat → Nat → Int} {L : Nat} {X : Int → Int} (hG : SCR G L X) (hL : L ≤ 3072) (i : Int) (i0 : 0 ≤ i) (i1 : i + 6 ≤ L) (ihx : ∀ (ls : PL) (H : PH), pget ls 0 = some (2, -1) → pget ls 1 = some (2, 0) → pget ls 2 = some (2, 590) → pget ls 3 = some (0, i + 6) → TI g H → REL H → Tr G us kd_L_law 33 (zget kd_L_law 18) 18 ls [] H (fun r _ => r = some (0, 1))) : ∀ (ls : PL) (H : PH), pget ls 0 = some (2, -1) → pget ls 1 = some (2, 0) → pget ls 2 = some (2, 590) → pget ls 3 = some (0, i) → TI g H → REL H → Tr G us kd_L_law 33 (zget kd_L_law 689) 689 ls [] H (fun r _ => r = some (0, 1)) := by
  intro ls H l0 l1 l2 l3 hT hs
  have z1 : zw (i + 1) = i + 1 := zw_lit (by omega) (by omega)
  have z2 : zw (i + 2) = i + 2 := zw_lit (by omega) (by omega)
  have z3 : zw (i + 3) = i + 3 := zw_lit (by omega) (by omega)
  have z4 : zw (i + 4) = i + 4 := zw_lit (by omega) (by omega)
  have z5 : zw (i + 5) = i + 5 := zw_lit (by omega) (by omega)
  refine tr_labL (D := 32) (t := 689) hG lb_689 _ le_689 ?_
  simp (maxDischargeDepth := 12) [lb_689, wBL, wL, wI, k1, kI, kR, kL, k2, pget, parg, ppush, pcat, zw_lit, zw_m1, zw_m2, zw_m3, zNC_eq, zrow, pget_pss, pget_psx, nlg_some, nlg_none, sh_0, sh_590, l0, l1, l2, l3, z1, z2, z3, z4, z5]
  repeat' (with_reducible (first | (refine And.intro ?_ ?_) | intro _))
  all_goals try (refine Ca_use (rc_remarked (X (i + 1)) (X (i + 2)) (X (i + 3)) H hT hs (SCR_in hG (by omega) (by omega)) (SCR_in hG (by omega) (by omega)) (SCR_in hG (by omega) (by omega))) (by omega) ?_; rintro _ _ ⟨v, rfl, hT2, hs2⟩; simp (maxDischargeDepth := 12) [lb_689, wBL, wL, wI, k1, kI, kR, kL, k2, pget, parg, ppush, pcat, zw_lit, zw_m1, zw_m2, zw_m3, zNC_eq, zrow, pget_pss, pget_psx, nlg_some, nlg_none, sh_0, sh_590, l0, l1, l2, l3, z1, z2, z3, z4, z5])
  all_goals repeat' (with_reducible (first | (refine And.intro ?_ ?_) | intro _))
  all_goals try (refine Ca_use (rm_remarked (X (i + 1)) (X (i + 2)) (X (i + 3)) _ hT2 hs2 (SCR_in hG (by omega) (by omega)) (SCR_in hG (by omega) (by omega)) (SCR_in hG (by omega) (by omega))) (by omega) ?_; rintro _ _ ⟨w, rfl, hT3, hs3⟩; simp (maxDischargeDepth := 12) [lb_689, wBL, wL, wI, k1, kI, kR, kL, k2, pget, parg, ppush, pcat, zw_lit, zw_m1, zw_m2, zw_m3, zNC_eq, zrow, pget_pss, pget_psx, nlg_some, nlg_none, sh_0, sh_590, l0, l1, l2, l3, z1, z2, z3, z4, z5])
  all_goals repeat' (with_reducible (first | (refine And.intro ?_ ?_) | intro _))
  all_goals try ((refine lw_1298 hG hL i i0 i1 ihx _ _ ?_ ?_ ?_ ?_ ?_ ?_) <;> (try simp (maxDischargeDepth := 12) [l0, l1, l2, l3]))
  all_goals (first | omega | assumption | decide | skip)
set_option maxRecDepth 20000 in
set_option maxHeartbeats 4000000 in
theorem lc_claim {G : zG} {us : Nat} {g : Nat → Nat → Int} {L : Nat} {X : Int → Int} (hG : SCR G L X) (hL : L ≤ 3072) (i : Int) (i0 : 0 ≤ i) (i1 : i + 6 ≤ L) (ihx : ∀ (ls : PL) (H : PH), pget ls 0 = some (2, -1) → pget ls 1 = some (2, 0) → pget ls 2 = some (2, 590) → pget ls 3 = some (0, i + 6) → TI g H → REL H → Tr G us kd_L_law 33 (zget kd_L_law 18) 18 ls [] H (fun r _ => r = some (0, 1))) : ∀ (ls : PL) (H : PH), pget ls 0 = some (2, -1) → pget ls 1 = some (2, 0) → pget ls 2 = some (2, 590) → pget ls 3 = some (0, i) → TI g H → REL H → Tr G us kd_L_law 33 (zget kd_L_law 732) 732 ls [] H (fun r _ => r = some (0, 1)) := by
  intro ls H l0 l1 l2 l3 hT hs
  have z1 : zw (i + 1) = i + 1 := zw_lit (by omega) (by omega)
  have z2 : zw (i + 2) = i + 2 := zw_lit (by omega) (by omega)
  have z3 : zw (i + 3) = i + 3 := zw_lit (by omega) (by omega)
  have z4 : zw (i + 4) = i + 4 := zw_lit (by omega) (by omega)
  have z5 : zw (i + 5) = i + 5 := zw_lit (by omega) (by omega)
  refine tr_labL (D := 32) (t := 732) hG lb_732 _ le_732 ?_
  simp (maxDischargeDepth := 12) [lb_732, wBL, wL, wI, k1, kI, kR, kL, k2, pget, parg, ppush, pcat, zw_lit, zw_m1, zw_m2, zw_m3, zNC_eq, zrow, pget_pss, pget_psx, nlg_some, nlg_none, sh_0, sh_590, l0, l1, l2, l3, z1, z2, z3, z4, z5]
  repeat' (with_reducible (first | (refine And.intro ?_ ?_) | intro _))
  all_goals try (refine Ca_use (rc_claim (X (i + 1)) (X (i + 2)) H hT hs (SCR_in hG (by omega) (by omega)) (SCR_in hG (by omega) (by omega))) (by omega) ?_; rintro _ _ ⟨v, rfl, hT2, hs2⟩; simp (maxDischargeDepth := 12) [lb_732, wBL, wL, wI, k1, kI, kR, kL, k2, pget, parg, ppush, pcat, zw_lit, zw_m1, zw_m2, zw_m3, zNC_eq, zrow, pget_pss, pget_psx, nlg_some, nlg_none, sh_0, sh_590, l0, l1, l2, l3, z1, z2, z3, z4, z5])
  all_goals repeat' (with_reducible (first | (refine And.intro ?_ ?_) | intro _))
  all_goals try (refine Ca_use (rm_claim (X (i + 1)) (X (i + 2)) _ _ hT2 hs2 (SCR_in hG (by omega) (by omega)) (SCR_in hG (by omega) (by omega))) (by omega) ?_; rintro _ _ ⟨rfl, hT3, hs3⟩; simp (maxDischargeDepth := 12) [lb_732, wBL, wL, wI, k1, kI, kR, kL, k2, pget, parg, ppush, pcat, zw_lit, zw_m1, zw_m2, zw_m3, zNC_eq, zrow, pget_pss, pget_psx, nlg_some, nlg_none, sh_0, sh_590, l0, l1, l2, l3, z1, z2, z3, z4, z5])
  all_goals repeat' (with_reducible (first | (refine And.intro ?_ ?_) | intro _))
  all_goals try ((refine lw_1298 hG hL i i0 i1 ihx _ _ ?_ ?_ ?_ ?_ ?_ ?_) <;> (try simp (maxDischargeDepth := 12) [l0, l1, l2, l3]))
  all_goals (first | omega | assumption | decide | skip)
set_option maxRecDepth 20000 in
set_option maxHeartbeats 4000000 in
theorem lc_limit {G : zG} {us : Nat} {g : Nat → Nat → Int} {L : Nat} {X : Int → Int} (hG : SCR G L X) (hL : L ≤ 3072) (i : Int) (i0 : 0 ≤ i) (i1 : i + 6 ≤ L) (ihx : ∀ (ls : PL) (H : PH), pget ls 0 = some (2, -1) → pget ls 1 = some (2, 0) → pget ls 2 = some (2, 590) → pget ls 3 = some (0, i + 6) → TI g H → REL H → Tr G us kd_L_law 33 (zget kd_L_law 18) 18 ls [] H (fun r _ => r = some (0, 1))) : ∀ (ls : PL) (H : PH), pget ls 0 = some (2, -1) → pget ls 1 = some (2, 0) → pget ls 2 = some (2, 590) → pget ls 3 = some (0, i) → TI g H → REL H → Tr G us kd_L_law 33 (zget kd_L_law 765) 765 ls [] H (fun r _ => r = some (0, 1)) := by
  intro ls H l0 l1 l2 l3 hT hs
  have z1 : zw (i + 1) = i + 1 := zw_lit (by omega) (by omega)
  have z2 : zw (i + 2) = i + 2 := zw_lit (by omega) (by omega)
  have z3 : zw (i + 3) = i + 3 := zw_lit (by omega) (by omega)
  have z4 : zw (i + 4) = i + 4 := zw_lit (by omega) (by omega)
  have z5 : zw (i + 5) = i + 5 := zw_lit (by omega) (by omega)
  refine tr_labL (D := 32) (t := 765) hG lb_765 _ le_765 ?_
  simp (maxDischargeDepth := 12) [lb_765, wBL, wL, wI, k1, kI, kR, kL, k2, pget, parg, ppush, pcat, zw_lit, zw_m1, zw_m2, zw_m3, zNC_eq, zrow, pget_pss, pget_psx, nlg_some, nlg_none, sh_0, sh_590, l0, l1, l2, l3, z1, z2, z3, z4, z5]
  repeat' (with_reducible (first | (refine And.intro ?_ ?_) | intro _))
  all_goals try (refine Ca_use (rc_limit (X (i + 1)) H hT hs (SCR_in hG (by omega) (by omega))) (by omega) ?_; rintro _ _ ⟨v, rfl, hT2, hs2⟩; simp (maxDischargeDepth := 12) [lb_765, wBL, wL, wI, k1, kI, kR, kL, k2, pget, parg, ppush, pcat, zw_lit, zw_m1, zw_m2, zw_m3, zNC_eq, zrow, pget_pss, pget_psx, nlg_some, nlg_none, sh_0, sh_590, l0, l1, l2, l3, z1, z2, z3, z4, z5])
  all_goals repeat' (with_reducible (first | (refine And.intro ?_ ?_) | intro _))
  all_goals try (refine Ca_use (rm_limit (X (i + 1)) _ _ hT2 hs2 (SCR_in hG (by omega) (by omega))) (by omega) ?_; rintro _ _ ⟨rfl, hT3, hs3⟩; simp (maxDischargeDepth := 12) [lb_765, wBL, wL, wI, k1, kI, kR, kL, k2, pget, parg, ppush, pcat, zw_lit, zw_m1, zw_m2, zw_m3, zNC_eq, zrow, pget_pss, pget_psx, nlg_some, nlg_none, sh_0, sh_590, l0, l1, l2, l3, z1, z2, z3, z4, z5])
  all_goals repeat' (with_reducible (first | (refine And.intro ?_ ?_) | intro _))
  all_goals try ((refine lw_1298 hG hL i i0 i1 ihx _ _ ?_ ?_ ?_ ?_ ?_ ?_) <;> (try simp (maxDischargeDepth := 12) [l0, l1, l2, l3]))
  all_goals (first | omega | assumption | decide | skip)
set_option maxRecDepth 20000 in
set_option maxHeartbeats 4000000 in
theorem lc_far {G : zG} {us : Nat} {g : Nat → Nat → Int} {L : Nat} {X : Int → Int} (hG : SCR G L X) (hL : L ≤ 3072) (i : Int) (i0 : 0 ≤ i) (i1 : i + 6 ≤ L) (ihx : ∀ (ls : PL) (H : PH), pget ls 0 = some (2, -1) → pget ls 1 = some (2, 0) → pget ls 2 = some (2, 590) → pget ls 3 = some (0, i + 6) → TI g H → REL H → Tr G us kd_L_law 33 (zget kd_L_law 18) 18 ls [] H (fun r _ => r = some (0, 1))) : ∀ (ls : PL) (H : PH), pget ls 0 = some (2, -1) → pget ls 1 = some (2, 0) → pget ls 2 = some (2, 590) → pget ls 3 = some (0, i) → TI g H → REL H → Tr G us kd_L_law 33 (zget kd_L_law 788) 788 ls [] H (fun r _ => r = some (0, 1)) := by
  intro ls H l0 l1 l2 l3 hT hs
  have z1 : zw (i + 1) = i + 1 := zw_lit (by omega) (by omega)
  have z2 : zw (i + 2) = i + 2 := zw_lit (by omega) (by omega)
  have z3 : zw (i + 3) = i + 3 := zw_lit (by omega) (by omega)
  have z4 : zw (i + 4) = i + 4 := zw_lit (by omega) (by omega)
  have z5 : zw (i + 5) = i + 5 := zw_lit (by omega) (by omega)
  refine tr_labL (D := 32) (t := 788) hG lb_788 _ le_788 ?_
  simp (maxDischargeDepth := 12) [lb_788, wBL, wL, wI, k1, kI, kR, kL, k2, pget, parg, ppush, pcat, zw_lit, zw_m1, zw_m2, zw_m3, zNC_eq, zrow, pget_pss, pget_psx, nlg_some, nlg_none, sh_0, sh_590, l0, l1, l2, l3, z1, z2, z3, z4, z5]
  repeat' (with_reducible (first | (refine And.intro ?_ ?_) | intro _))
  all_goals try (refine Ca_use (rc_far (X (i + 1)) H hT hs (SCR_in hG (by omega) (by omega))) (by omega) ?_; rintro _ _ ⟨v, rfl, hT2, hs2⟩; simp (maxDischargeDepth := 12) [lb_788, wBL, wL, wI, k1, kI, kR, kL, k2, pget, parg, ppush, pcat, zw_lit, zw_m1, zw_m2, zw_m3, zNC_eq, zrow, pget_pss, pget_psx, nlg_some, nlg_none, sh_0, sh_590, l0, l1, l2, l3, z1, z2, z3, z4, z5])
  all_goals repeat' (with_reducible (first | (refine And.intro ?_ ?_) | intro _))
  all_goals try (refine Ca_use (rm_far (X (i + 1)) _ _ hT2 hs2 (SCR_in hG (by omega) (by omega))) (by omega) ?_; rintro _ _ ⟨rfl, hT3, hs3⟩; simp (maxDischargeDepth := 12) [lb_788, wBL, wL, wI, k1, kI, kR, kL, k2, pget, parg, ppush, pcat, zw_lit, zw_m1, zw_m2, zw_m3, zNC_eq, zrow, pget_pss, pget_psx, nlg_some, nlg_none, sh_0, sh_590, l0, l1, l2, l3, z1, z2, z3, z4, z5])
  all_goals repeat' (with_reducible (first | (refine And.intro ?_ ?_) | intro _))
  all_goals try ((refine lw_1298 hG hL i i0 i1 ihx _ _ ?_ ?_ ?_ ?_ ?_ ?_) <;> (try simp (maxDischargeDepth := 12) [l0, l1, l2, l3]))
  all_goals (first | omega | assumption | decide | skip)
set_option maxRecDepth 20000 in
set_option maxHeartbeats 4000000 in
theorem lc_pack {G : zG} {us : Nat} {g : Nat → Nat → Int} {L : Nat} {X : Int → Int} (hG : SCR G L X) (hL : L ≤ 3072) (i : Int) (i0 : 0 ≤ i) (i1 : i + 6 ≤ L) (ihx : ∀ (ls : PL) (H : PH), pget ls 0 = some (2, -1) → pget ls 1 = some (2, 0) → pget ls 2 = some (2, 590) → pget ls 3 = some (0, i + 6) → TI g H → REL H → Tr G us kd_L_law 33 (zget kd_L_law 18) 18 ls [] H (fun r _ => r = some (0, 1))) : ∀ (ls : PL) (H : PH), pget ls 0 = some (2, -1) → pget ls 1 = some (2, 0) → pget ls 2 = some (2, 590) → pget ls 3 = some (0, i) → TI g H → REL H → Tr G us kd_L_law 33 (zget kd_L_law 811) 811 ls [] H (fun r _ => r = some (0, 1)) := by
  intro ls H l0 l1 l2 l3 hT hs
  have z1 : zw (i + 1) = i + 1 := zw_lit (by omega) (by omega)
  have z2 : zw (i + 2) = i + 2 := zw_lit (by omega) (by omega)
  have z3 : zw (i + 3) = i + 3 := zw_lit (by omega) (by omega)
  have z4 : zw (i + 4) = i + 4 := zw_lit (by omega) (by omega)
  have z5 : zw (i + 5) = i + 5 := zw_lit (by omega) (by omega)
  refine tr_labL (D := 32) (t := 811) hG lb_811 _ le_811 ?_
  simp (maxDischargeDepth := 12) [lb_811, wBL, wL, wI, k1, kI, kR, kL, k2, pget, parg, ppush, pcat, zw_lit, zw_m1, zw_m2, zw_m3, zNC_eq, zrow, pget_pss, pget_psx, nlg_some, nlg_none, sh_0, sh_590, l0, l1, l2, l3, z1, z2, z3, z4, z5]
  repeat' (with_reducible (first | (refine And.intro ?_ ?_) | intro _))
  all_goals try (refine Ca_use (rc_pack (X (i + 1)) H hT hs (SCR_in hG (by omega) (by omega))) (by omega) ?_; rintro _ _ ⟨v, rfl, hT2, hs2⟩; simp (maxDischargeDepth := 12) [lb_811, wBL, wL, wI, k1, kI, kR, kL, k2, pget, parg, ppush, pcat, zw_lit, zw_m1, zw_m2, zw_m3, zNC_eq, zrow, pget_pss, pget_psx, nlg_some, nlg_none, sh_0, sh_590, l0, l1, l2, l3, z1, z2, z3, z4, z5])
  all_goals repeat' (with_reducible (first | (refine And.intro ?_ ?_) | intro _))
  all_goals try (refine Ca_use (rm_pack (X (i + 1)) _ _ hT2 hs2 (SCR_in hG (by omega) (by omega))) (by omega) ?_; rintro _ _ ⟨rfl, hT3, hs3⟩; simp (maxDischargeDepth := 12) [lb_811, wBL, wL, wI, k1, kI, kR, kL, k2, pget, parg, ppush, pcat, zw_lit, zw_m1, zw_m2, zw_m3, zNC_eq, zrow, pget_pss, pget_psx, nlg_some, nlg_none, sh_0, sh_590, l0, l1, l2, l3, z1, z2, z3, z4, z5])
  all_goals repeat' (with_reducible (first | (refine And.intro ?_ ?_) | intro _))
  all_goals try ((refine lw_1298 hG hL i i0 i1 ihx _ _ ?_ ?_ ?_ ?_ ?_ ?_) <;> (try simp (maxDischargeDepth := 12) [l0, l1, l2, l3]))
  all_goals (first | omega | assumption | decide | skip)
set_option maxRecDepth 20000 in
set_option maxHeartbeats 4000000 in
theorem lc_paid {G : zG} {us : Nat} {g : Nat → Nat → Int} {L : Nat} {X : Int → Int} (hG : SCR G L X) (hL : L ≤ 3072) (i : Int) (i0 : 0 ≤ i) (i1 : i + 6 ≤ L) (ihx : ∀ (ls : PL) (H : PH), pget ls 0 = some (2, -1) → pget ls 1 = some (2, 0) → pget ls 2 = some (2, 590) → pget ls 3 = some (0, i + 6) → TI g H → REL H → Tr G us kd_L_law 33 (zget kd_L_law 18) 18 ls [] H (fun r _ => r = some (0, 1))) : ∀ (ls : PL) (H : PH), pget ls 0 = some (2, -1) → pget ls 1 = some (2, 0) → pget ls 2 = some (2, 590) → pget ls 3 = some (0, i) → TI g H → REL H → Tr G us kd_L_law 33 (zget kd_L_law 834) 834 ls [] H (fun r _ => r = some (0, 1)) := by
  intro ls H l0 l1 l2 l3 hT hs
  have z1 : zw (i + 1) = i + 1 := zw_lit (by omega) (by omega)
  have z2 : zw (i + 2) = i + 2 := zw_lit (by omega) (by omega)
  have z3 : zw (i + 3) = i + 3 := zw_lit (by omega) (by omega)
  have z4 : zw (i + 4) = i + 4 := zw_lit (by omega) (by omega)
  have z5 : zw (i + 5) = i + 5 := zw_lit (by omega) (by omega)
  refine tr_labL (D := 32) (t := 834) hG lb_834 _ le_834 ?_
  simp (maxDischargeDepth := 12) [lb_834, wBL, wL, wI, k1, kI, kR, kL, k2, pget, parg, ppush, pcat, zw_lit, zw_m1, zw_m2, zw_m3, zNC_eq, zrow, pget_pss, pget_psx, nlg_some, nlg_none, sh_0, sh_590, l0, l1, l2, l3, z1, z2, z3, z4, z5]
  repeat' (with_reducible (first | (refine And.intro ?_ ?_) | intro _))
  all_goals try (refine Ca_use (rc_paid (X (i + 1)) H hT hs (SCR_in hG (by omega) (by omega))) (by omega) ?_; rintro _ _ ⟨v, rfl, hT2, hs2⟩; simp (maxDischargeDepth := 12) [lb_834, wBL, wL, wI, k1, kI, kR, kL, k2, pget, parg, ppush, pcat, zw_lit, zw_m1, zw_m2, zw_m3, zNC_eq, zrow, pget_pss, pget_psx, nlg_some, nlg_none, sh_0, sh_590, l0, l1, l2, l3, z1, z2, z3, z4, z5])
  all_goals repeat' (with_reducible (first | (refine And.intro ?_ ?_) | intro _))
  all_goals try (refine Ca_use (rm_paid (X (i + 1)) _ hT2 hs2 (SCR_in hG (by omega) (by omega))) (by omega) ?_; rintro _ _ ⟨w, rfl, hT3, hs3⟩; simp (maxDischargeDepth := 12) [lb_834, wBL, wL, wI, k1, kI, kR, kL, k2, pget, parg, ppush, pcat, zw_lit, zw_m1, zw_m2, zw_m3, zNC_eq, zrow, pget_pss, pget_psx, nlg_some, nlg_none, sh_0, sh_590, l0, l1, l2, l3, z1, z2, z3, z4, z5])
  all_goals repeat' (with_reducible (first | (refine And.intro ?_ ?_) | intro _))
  all_goals try ((refine lw_1298 hG hL i i0 i1 ihx _ _ ?_ ?_ ?_ ?_ ?_ ?_) <;> (try simp (maxDischargeDepth := 12) [l0, l1, l2, l3]))
  all_goals (first | omega | assumption | decide | skip)
set_option maxRecDepth 20000 in
set_option maxHeartbeats 4000000 in
theorem lc_against {G : zG} {us : Nat} {g : Nat → Nat → Int} {L : Nat} {X : Int → Int} (hG : SCR G L X) (hL : L ≤ 3072) (i : Int) (i0 : 0 ≤ i) (i1 : i + 6 ≤ L) (ihx : ∀ (ls : PL) (H : PH), pget ls 0 = some (2, -1) → pget ls 1 = some (2, 0) → pget ls 2 = some (2, 590) → pget ls 3 = some (0, i + 6) → TI g H → REL H → Tr G us kd_L_law 33 (zget kd_L_law 18) 18 ls [] H (fun r _ => r = some (0, 1))) : ∀ (ls : PL) (H : PH), pget ls 0 = some (2, -1) → pget ls 1 = some (2, 0) → pget ls 2 = some (2, 590) → pget ls 3 = some (0, i) → TI g H → REL H → Tr G us kd_L_law 33 (zget kd_L_law 857) 857 ls [] H (fun r _ => r = some (0, 1)) := by
  intro ls H l0 l1 l2 l3 hT hs
  have z1 : zw (i + 1) = i + 1 := zw_lit (by omega) (by omega)
  have z2 : zw (i + 2) = i + 2 := zw_lit (by omega) (by omega)
  have z3 : zw (i + 3) = i + 3 := zw_lit (by omega) (by omega)
  have z4 : zw (i + 4) = i + 4 := zw_lit (by omega) (by omega)
  have z5 : zw (i + 5) = i + 5 := zw_lit (by omega) (by omega)
  refine tr_labL (D := 32) (t := 857) hG lb_857 _ le_857 ?_
  simp (maxDischargeDepth := 12) [lb_857, wBL, wL, wI, k1, kI, kR, kL, k2, pget, parg, ppush, pcat, zw_lit, zw_m1, zw_m2, zw_m3, zNC_eq, zrow, pget_pss, pget_psx, nlg_some, nlg_none, sh_0, sh_590, l0, l1, l2, l3, z1, z2, z3, z4, z5]
  repeat' (with_reducible (first | (refine And.intro ?_ ?_) | intro _))
  all_goals try (refine Ca_use (rc_against (X (i + 1)) (X (i + 2)) H hT hs (SCR_in hG (by omega) (by omega)) (SCR_in hG (by omega) (by omega))) (by omega) ?_; rintro _ _ ⟨v, rfl, hT2, hs2⟩; simp (maxDischargeDepth := 12) [lb_857, wBL, wL, wI, k1, kI, kR, kL, k2, pget, parg, ppush, pcat, zw_lit, zw_m1, zw_m2, zw_m3, zNC_eq, zrow, pget_pss, pget_psx, nlg_some, nlg_none, sh_0, sh_590, l0, l1, l2, l3, z1, z2, z3, z4, z5])
  all_goals repeat' (with_reducible (first | (refine And.intro ?_ ?_) | intro _))
  all_goals try (refine Ca_use (rm_against (X (i + 1)) (X (i + 2)) _ hT2 hs2 (SCR_in hG (by omega) (by omega)) (SCR_in hG (by omega) (by omega))) (by omega) ?_; rintro _ _ ⟨w, rfl, hT3, hs3⟩; simp (maxDischargeDepth := 12) [lb_857, wBL, wL, wI, k1, kI, kR, kL, k2, pget, parg, ppush, pcat, zw_lit, zw_m1, zw_m2, zw_m3, zNC_eq, zrow, pget_pss, pget_psx, nlg_some, nlg_none, sh_0, sh_590, l0, l1, l2, l3, z1, z2, z3, z4, z5])
  all_goals repeat' (with_reducible (first | (refine And.intro ?_ ?_) | intro _))
  all_goals try ((refine lw_1298 hG hL i i0 i1 ihx _ _ ?_ ?_ ?_ ?_ ?_ ?_) <;> (try simp (maxDischargeDepth := 12) [l0, l1, l2, l3]))
  all_goals (first | omega | assumption | decide | skip)
set_option maxRecDepth 20000 in
set_option maxHeartbeats 4000000 in
theorem lc_hold {G : zG} {us : Nat} {g : Nat → Nat → Int} {L : Nat} {X : Int → Int} (hG : SCR G L X) (hL : L ≤ 3072) (i : Int) (i0 : 0 ≤ i) (i1 : i + 6 ≤ L) (ihx : ∀ (ls : PL) (H : PH), pget ls 0 = some (2, -1) → pget ls 1 = some (2, 0) → pget ls 2 = some (2, 590) → pget ls 3 = some (0, i + 6) → TI g H → REL H → Tr G us kd_L_law 33 (zget kd_L_law 18) 18 ls [] H (fun r _ => r = some (0, 1))) : ∀ (ls : PL) (H : PH), pget ls 0 = some (2, -1) → pget ls 1 = some (2, 0) → pget ls 2 = some (2, 590) → pget ls 3 = some (0, i) → TI g H → REL H → Tr G us kd_L_law 33 (zget kd_L_law 890) 890 ls [] H (fun r _ => r = some (0, 1)) := by
  intro ls H l0 l1 l2 l3 hT hs
  have z1 : zw (i + 1) = i + 1 := zw_lit (by omega) (by omega)
  have z2 : zw (i + 2) = i + 2 := zw_lit (by omega) (by omega)
  have z3 : zw (i + 3) = i + 3 := zw_lit (by omega) (by omega)
  have z4 : zw (i + 4) = i + 4 := zw_lit (by omega) (by omega)
  have z5 : zw (i + 5) = i + 5 := zw_lit (by omega) (by omega)
  refine tr_labL (D := 32) (t := 890) hG lb_890 _ le_890 ?_
  simp (maxDischargeDepth := 12) [lb_890, wBL, wL, wI, k1, kI, kR, kL, k2, pget, parg, ppush, pcat, zw_lit, zw_m1, zw_m2, zw_m3, zNC_eq, zrow, pget_pss, pget_psx, nlg_some, nlg_none, sh_0, sh_590, l0, l1, l2, l3, z1, z2, z3, z4, z5]
  repeat' (with_reducible (first | (refine And.intro ?_ ?_) | intro _))
  all_goals try (refine Ca_use (rc_hold (X (i + 1)) (X (i + 2)) H hT hs (SCR_in hG (by omega) (by omega)) (SCR_in hG (by omega) (by omega))) (by omega) ?_; rintro _ _ ⟨v, rfl, hT2, hs2⟩; simp (maxDischargeDepth := 12) [lb_890, wBL, wL, wI, k1, kI, kR, kL, k2, pget, parg, ppush, pcat, zw_lit, zw_m1, zw_m2, zw_m3, zNC_eq, zrow, pget_pss, pget_psx, nlg_some, nlg_none, sh_0, sh_590, l0, l1, l2, l3, z1, z2, z3, z4, z5])
  all_goals repeat' (with_reducible (first | (refine And.intro ?_ ?_) | intro _))
  all_goals try (refine Ca_use (rm_hold (X (i + 1)) (X (i + 2)) _ hT2 hs2 (SCR_in hG (by omega) (by omega)) (SCR_in hG (by omega) (by omega))) (by omega) ?_; rintro _ _ ⟨w, rfl, hT3, hs3⟩; simp (maxDischargeDepth := 12) [lb_890, wBL, wL, wI, k1, kI, kR, kL, k2, pget, parg, ppush, pcat, zw_lit, zw_m1, zw_m2, zw_m3, zNC_eq, zrow, pget_pss, pget_psx, nlg_some, nlg_none, sh_0, sh_590, l0, l1, l2, l3, z1, z2, z3, z4, z5])
  all_goals repeat' (with_reducible (first | (refine And.intro ?_ ?_) | intro _))
  all_goals try ((refine lw_1298 hG hL i i0 i1 ihx _ _ ?_ ?_ ?_ ?_ ?_ ?_) <;> (try simp (maxDischargeDepth := 12) [l0, l1, l2, l3]))
  all_goals (first | omega | assumption | decide | skip)
set_option maxRecDepth 20000 in
set_option maxHeartbeats 4000000 in
theorem lc_close {G : zG} {us : Nat} {g : Nat → Nat → Int} {L : Nat} {X : Int → Int} (hG : SCR G L X) (hL : L ≤ 3072) (i : Int) (i0 : 0 ≤ i) (i1 : i + 6 ≤ L) (ihx : ∀ (ls : PL) (H : PH), pget ls 0 = some (2, -1) → pget ls 1 = some (2, 0) → pget ls 2 = some (2, 590) → pget ls 3 = some (0, i + 6) → TI g H → REL H → Tr G us kd_L_law 33 (zget kd_L_law 18) 18 ls [] H (fun r _ => r = some (0, 1))) : ∀ (ls : PL) (H : PH), pget ls 0 = some (2, -1) → pget ls 1 = some (2, 0) → pget ls 2 = some (2, 590) → pget ls 3 = some (0, i) → TI g H → REL H → Tr G us kd_L_law 33 (zget kd_L_law 923) 923 ls [] H (fun r _ => r = some (0, 1)) := by
  intro ls H l0 l1 l2 l3 hT hs
  have z1 : zw (i + 1) = i + 1 := zw_lit (by omega) (by omega)
  have z2 : zw (i + 2) = i + 2 := zw_lit (by omega) (by omega)
  have z3 : zw (i + 3) = i + 3 := zw_lit (by omega) (by omega)
  have z4 : zw (i + 4) = i + 4 := zw_lit (by omega) (by omega)
  have z5 : zw (i + 5) = i + 5 := zw_lit (by omega) (by omega)
  refine tr_labL (D := 32) (t := 923) hG lb_923 _ le_923 ?_
  simp (maxDischargeDepth := 12) [lb_923, wBL, wL, wI, k1, kI, kR, kL, k2, pget, parg, ppush, pcat, zw_lit, zw_m1, zw_m2, zw_m3, zNC_eq, zrow, pget_pss, pget_psx, nlg_some, nlg_none, sh_0, sh_590, l0, l1, l2, l3, z1, z2, z3, z4, z5]
  repeat' (with_reducible (first | (refine And.intro ?_ ?_) | intro _))
  all_goals try (refine Ca_use (rc_close (X (i + 1)) H hT hs (SCR_in hG (by omega) (by omega))) (by omega) ?_; rintro _ _ ⟨v, rfl, hT2, hs2⟩; simp (maxDischargeDepth := 12) [lb_923, wBL, wL, wI, k1, kI, kR, kL, k2, pget, parg, ppush, pcat, zw_lit, zw_m1, zw_m2, zw_m3, zNC_eq, zrow, pget_pss, pget_psx, nlg_some, nlg_none, sh_0, sh_590, l0, l1, l2, l3, z1, z2, z3, z4, z5])
  all_goals repeat' (with_reducible (first | (refine And.intro ?_ ?_) | intro _))
  all_goals try (refine Ca_use (rm_close (X (i + 1)) _ hT2 hs2 (SCR_in hG (by omega) (by omega))) (by omega) ?_; rintro _ _ ⟨w, rfl, hT3, hs3⟩; simp (maxDischargeDepth := 12) [lb_923, wBL, wL, wI, k1, kI, kR, kL, k2, pget, parg, ppush, pcat, zw_lit, zw_m1, zw_m2, zw_m3, zNC_eq, zrow, pget_pss, pget_psx, nlg_some, nlg_none, sh_0, sh_590, l0, l1, l2, l3, z1, z2, z3, z4, z5])
  all_goals repeat' (with_reducible (first | (refine And.intro ?_ ?_) | intro _))
  all_goals try ((refine lw_1298 hG hL i i0 i1 ihx _ _ ?_ ?_ ?_ ?_ ?_ ?_) <;> (try simp (maxDischargeDepth := 12) [l0, l1, l2, l3]))
  all_goals (first | omega | assumption | decide | skip)
set_option maxRecDepth 20000 in
set_option maxHeartbeats 4000000 in
theorem lc_blame {G : zG} {us : Nat} {g : Nat → Nat → Int} {L : Nat} {X : Int → Int} (hG : SCR G L X) (hL : L ≤ 3072) (i : Int) (i0 : 0 ≤ i) (i1 : i + 6 ≤ L) (ihx : ∀ (ls : PL) (H : PH), pget ls 0 = some (2, -1) → pget ls 1 = some (2, 0) → pget ls 2 = some (2, 590) → pget ls 3 = some (0, i + 6) → TI g H → REL H → Tr G us kd_L_law 33 (zget kd_L_law 18) 18 ls [] H (fun r _ => r = some (0, 1))) : ∀ (ls : PL) (H : PH), pget ls 0 = some (2, -1) → pget ls 1 = some (2, 0) → pget ls 2 = some (2, 590) → pget ls 3 = some (0, i) → TI g H → REL H → Tr G us kd_L_law 33 (zget kd_L_law 946) 946 ls [] H (fun r _ => r = some (0, 1)) := by
  intro ls H l0 l1 l2 l3 hT hs
  have z1 : zw (i + 1) = i + 1 := zw_lit (by omega) (by omega)
  have z2 : zw (i + 2) = i + 2 := zw_lit (by omega) (by omega)
  have z3 : zw (i + 3) = i + 3 := zw_lit (by omega) (by omega)
  have z4 : zw (i + 4) = i + 4 := zw_lit (by omega) (by omega)
  have z5 : zw (i + 5) = i + 5 := zw_lit (by omega) (by omega)
  refine tr_labL (D := 32) (t := 946) hG lb_946 _ le_946 ?_
  simp (maxDischargeDepth := 12) [lb_946, wBL, wL, wI, k1, kI, kR, kL, k2, pget, parg, ppush, pcat, zw_lit, zw_m1, zw_m2, zw_m3, zNC_eq, zrow, pget_pss, pget_psx, nlg_some, nlg_none, sh_0, sh_590, l0, l1, l2, l3, z1, z2, z3, z4, z5]
  repeat' (with_reducible (first | (refine And.intro ?_ ?_) | intro _))
  all_goals try (refine Ca_use (rc_blame (X (i + 1)) (X (i + 2)) H hT hs (SCR_in hG (by omega) (by omega)) (SCR_in hG (by omega) (by omega))) (by omega) ?_; rintro _ _ ⟨v, rfl, hT2, hs2⟩; simp (maxDischargeDepth := 12) [lb_946, wBL, wL, wI, k1, kI, kR, kL, k2, pget, parg, ppush, pcat, zw_lit, zw_m1, zw_m2, zw_m3, zNC_eq, zrow, pget_pss, pget_psx, nlg_some, nlg_none, sh_0, sh_590, l0, l1, l2, l3, z1, z2, z3, z4, z5])
  all_goals repeat' (with_reducible (first | (refine And.intro ?_ ?_) | intro _))
  all_goals try (refine Ca_use (rm_blame (X (i + 1)) (X (i + 2)) _ hT2 hs2 (SCR_in hG (by omega) (by omega)) (SCR_in hG (by omega) (by omega))) (by omega) ?_; rintro _ _ ⟨w, rfl, hT3, hs3⟩; simp (maxDischargeDepth := 12) [lb_946, wBL, wL, wI, k1, kI, kR, kL, k2, pget, parg, ppush, pcat, zw_lit, zw_m1, zw_m2, zw_m3, zNC_eq, zrow, pget_pss, pget_psx, nlg_some, nlg_none, sh_0, sh_590, l0, l1, l2, l3, z1, z2, z3, z4, z5])
  all_goals repeat' (with_reducible (first | (refine And.intro ?_ ?_) | intro _))
  all_goals try ((refine lw_1298 hG hL i i0 i1 ihx _ _ ?_ ?_ ?_ ?_ ?_ ?_) <;> (try simp (maxDischargeDepth := 12) [l0, l1, l2, l3]))
  all_goals (first | omega | assumption | decide | skip)
set_option maxRecDepth 20000 in
set_option maxHeartbeats 4000000 in
theorem lc_worn {G : zG} {us : Nat} {g : Nat → Nat → Int} {L : Nat} {X : Int → Int} (hG : SCR G L X) (hL : L ≤ 3072) (i : Int) (i0 : 0 ≤ i) (i1 : i + 6 ≤ L) (ihx : ∀ (ls : PL) (H : PH), pget ls 0 = some (2, -1) → pget ls 1 = some (2, 0) → pget ls 2 = some (2, 590) → pget ls 3 = some (0, i + 6) → TI g H → REL H → Tr G us kd_L_law 33 (zget kd_L_law 18) 18 ls [] H (fun r _ => r = some (0, 1))) : ∀ (ls : PL) (H : PH), pget ls 0 = some (2, -1) → pget ls 1 = some (2, 0) → pget ls 2 = some (2, 590) → pget ls 3 = some (0, i) → TI g H → REL H → Tr G us kd_L_law 33 (zget kd_L_law 979) 979 ls [] H (fun r _ => r = some (0, 1)) := by
  intro ls H l0 l1 l2 l3 hT hs
  have z1 : zw (i + 1) = i + 1 := zw_lit (by omega) (by omega)
  have z2 : zw (i + 2) = i + 2 := zw_lit (by omega) (by omega)
  have z3 : zw (i + 3) = i + 3 := zw_lit (by omega) (by omega)
  have z4 : zw (i + 4) = i + 4 := zw_lit (by omega) (by omega)
  have z5 : zw (i + 5) = i + 5 := zw_lit (by omega) (by omega)
  refine tr_labL (D := 32) (t := 979) hG lb_979 _ le_979 ?_
  simp (maxDischargeDepth := 12) [lb_979, wBL, wL, wI, k1, kI, kR, kL, k2, pget, parg, ppush, pcat, zw_lit, zw_m1, zw_m2, zw_m3, zNC_eq, zrow, pget_pss, pget_psx, nlg_some, nlg_none, sh_0, sh_590, l0, l1, l2, l3, z1, z2, z3, z4, z5]
  repeat' (with_reducible (first | (refine And.intro ?_ ?_) | intro _))
  all_goals try (refine Ca_use (rc_worn (X (i + 1)) (X (i + 2)) H hT hs (SCR_in hG (by omega) (by omega)) (SCR_in hG (by omega) (by omega))) (by omega) ?_; rintro _ _ ⟨v, rfl, hT2, hs2⟩; simp (maxDischargeDepth := 12) [lb_979, wBL, wL, wI, k1, kI, kR, kL, k2, pget, parg, ppush, pcat, zw_lit, zw_m1, zw_m2, zw_m3, zNC_eq, zrow, pget_pss, pget_psx, nlg_some, nlg_none, sh_0, sh_590, l0, l1, l2, l3, z1, z2, z3, z4, z5])
  all_goals repeat' (with_reducible (first | (refine And.intro ?_ ?_) | intro _))
  all_goals try (refine Ca_use (rm_worn (X (i + 1)) (X (i + 2)) _ hT2 hs2 (SCR_in hG (by omega) (by omega)) (SCR_in hG (by omega) (by omega))) (by omega) ?_; rintro _ _ ⟨w, rfl, hT3, hs3⟩; simp (maxDischargeDepth := 12) [lb_979, wBL, wL, wI, k1, kI, kR, kL, k2, pget, parg, ppush, pcat, zw_lit, zw_m1, zw_m2, zw_m3, zNC_eq, zrow, pget_pss, pget_psx, nlg_some, nlg_none, sh_0, sh_590, l0, l1, l2, l3, z1, z2, z3, z4, z5])
  all_goals repeat' (with_reducible (first | (refine And.intro ?_ ?_) | intro _))
  all_goals try ((refine lw_1298 hG hL i i0 i1 ihx _ _ ?_ ?_ ?_ ?_ ?_ ?_) <;> (try simp (maxDischargeDepth := 12) [l0, l1, l2, l3]))
  all_goals (first | omega | assumption | decide | skip)
set_option maxRecDepth 20000 in
set_option maxHeartbeats 4000000 in
theorem lc_twin {G : zG} {us : Nat} {g : Nat → Nat → Int} {L : Nat} {X : Int → Int} (hG : SCR G L X) (hL : L ≤ 3072) (i : Int) (i0 : 0 ≤ i) (i1 : i + 6 ≤ L) (ihx : ∀ (ls : PL) (H : PH), pget ls 0 = some (2, -1) → pget ls 1 = some (2, 0) → pget ls 2 = some (2, 590) → pget ls 3 = some (0, i + 6) → TI g H → REL H → Tr G us kd_L_law 33 (zget kd_L_law 18) 18 ls [] H (fun r _ => r = some (0, 1))) : ∀ (ls : PL) (H : PH), pget ls 0 = some (2, -1) → pget ls 1 = some (2, 0) → pget ls 2 = some (2, 590) → pget ls 3 = some (0, i) → TI g H → REL H → Tr G us kd_L_law 33 (zget kd_L_law 1012) 1012 ls [] H (fun r _ => r = some (0, 1)) := by
  intro ls H l0 l1 l2 l3 hT hs
  have z1 : zw (i + 1) = i + 1 := zw_lit (by omega) (by omega)
  have z2 : zw (i + 2) = i + 2 := zw_lit (by omega) (by omega)
  have z3 : zw (i + 3) = i + 3 := zw_lit (by omega) (by omega)
  have z4 : zw (i + 4) = i + 4 := zw_lit (by omega) (by omega)
  have z5 : zw (i + 5) = i + 5 := zw_lit (by omega) (by omega)
  refine tr_labL (D := 32) (t := 1012) hG lb_1012 _ le_1012 ?_
  simp (maxDischargeDepth := 12) [lb_1012, wBL, wL, wI, k1, kI, kR, kL, k2, pget, parg, ppush, pcat, zw_lit, zw_m1, zw_m2, zw_m3, zNC_eq, zrow, pget_pss, pget_psx, nlg_some, nlg_none, sh_0, sh_590, l0, l1, l2, l3, z1, z2, z3, z4, z5]
  repeat' (with_reducible (first | (refine And.intro ?_ ?_) | intro _))
  all_goals try (refine Ca_use (rc_twin (X (i + 1)) (X (i + 2)) H hT hs (SCR_in hG (by omega) (by omega)) (SCR_in hG (by omega) (by omega))) (by omega) ?_; rintro _ _ ⟨v, rfl, hT2, hs2⟩; simp (maxDischargeDepth := 12) [lb_1012, wBL, wL, wI, k1, kI, kR, kL, k2, pget, parg, ppush, pcat, zw_lit, zw_m1, zw_m2, zw_m3, zNC_eq, zrow, pget_pss, pget_psx, nlg_some, nlg_none, sh_0, sh_590, l0, l1, l2, l3, z1, z2, z3, z4, z5])
  all_goals repeat' (with_reducible (first | (refine And.intro ?_ ?_) | intro _))
  all_goals try (refine Ca_use (rm_twin (X (i + 1)) (X (i + 2)) _ hT2 hs2 (SCR_in hG (by omega) (by omega)) (SCR_in hG (by omega) (by omega))) (by omega) ?_; rintro _ _ ⟨w, rfl, hT3, hs3⟩; simp (maxDischargeDepth := 12) [lb_1012, wBL, wL, wI, k1, kI, kR, kL, k2, pget, parg, ppush, pcat, zw_lit, zw_m1, zw_m2, zw_m3, zNC_eq, zrow, pget_pss, pget_psx, nlg_some, nlg_none, sh_0, sh_590, l0, l1, l2, l3, z1, z2, z3, z4, z5])
  all_goals repeat' (with_reducible (first | (refine And.intro ?_ ?_) | intro _))
  all_goals try ((refine lw_1298 hG hL i i0 i1 ihx _ _ ?_ ?_ ?_ ?_ ?_ ?_) <;> (try simp (maxDischargeDepth := 12) [l0, l1, l2, l3]))
  all_goals (first | omega | assumption | decide | skip)
set_option maxRecDepth 20000 in
set_option maxHeartbeats 4000000 in
theorem lc_shed {G : zG} {us : Nat} {g : Nat → Nat → Int} {L : Nat} {X : Int → Int} (hG : SCR G L X) (hL : L ≤ 3072) (i : Int) (i0 : 0 ≤ i) (i1 : i + 6 ≤ L) (ihx : ∀ (ls : PL) (H : PH), pget ls 0 = some (2, -1) → pget ls 1 = some (2, 0) → pget ls 2 = some (2, 590) → pget ls 3 = some (0, i + 6) → TI g H → REL H → Tr G us kd_L_law 33 (zget kd_L_law 18) 18 ls [] H (fun r _ => r = some (0, 1))) : ∀ (ls : PL) (H : PH), pget ls 0 = some (2, -1) → pget ls 1 = some (2, 0) → pget ls 2 = some (2, 590) → pget ls 3 = some (0, i) → TI g H → REL H → Tr G us kd_L_law 33 (zget kd_L_law 1045) 1045 ls [] H (fun r _ => r = some (0, 1)) := by
  intro ls H l0 l1 l2 l3 hT hs
  have z1 : zw (i + 1) = i + 1 := zw_lit (by omega) (by omega)
  have z2 : zw (i + 2) = i + 2 := zw_lit (by omega) (by omega)
  have z3 : zw (i + 3) = i + 3 := zw_lit (by omega) (by omega)
  have z4 : zw (i + 4) = i + 4 := zw_lit (by omega) (by omega)
  have z5 : zw (i + 5) = i + 5 := zw_lit (by omega) (by omega)
  refine tr_labL (D := 32) (t := 1045) hG lb_1045 _ le_1045 ?_
  simp (maxDischargeDepth := 12) [lb_1045, wBL, wL, wI, k1, kI, kR, kL, k2, pget, parg, ppush, pcat, zw_lit, zw_m1, zw_m2, zw_m3, zNC_eq, zrow, pget_pss, pget_psx, nlg_some, nlg_none, sh_0, sh_590, l0, l1, l2, l3, z1, z2, z3, z4, z5]
  repeat' (with_reducible (first | (refine And.intro ?_ ?_) | intro _))
  all_goals try (refine Ca_use (rc_shed (X (i + 1)) H hT hs (SCR_in hG (by omega) (by omega))) (by omega) ?_; rintro _ _ ⟨v, rfl, hT2, hs2⟩; simp (maxDischargeDepth := 12) [lb_1045, wBL, wL, wI, k1, kI, kR, kL, k2, pget, parg, ppush, pcat, zw_lit, zw_m1, zw_m2, zw_m3, zNC_eq, zrow, pget_pss, pget_psx, nlg_some, nlg_none, sh_0, sh_590, l0, l1, l2, l3, z1, z2, z3, z4, z5])
  all_goals repeat' (with_reducible (first | (refine And.intro ?_ ?_) | intro _))
  all_goals try (refine Ca_use (rm_shed (X (i + 1)) _ hT2 hs2 (SCR_in hG (by omega) (by omega))) (by omega) ?_; rintro _ _ ⟨w, rfl, hT3, hs3⟩; simp (maxDischargeDepth := 12) [lb_1045, wBL, wL, wI, k1, kI, kR, kL, k2, pget, parg, ppush, pcat, zw_lit, zw_m1, zw_m2, zw_m3, zNC_eq, zrow, pget_pss, pget_psx, nlg_some, nlg_none, sh_0, sh_590, l0, l1, l2, l3, z1, z2, z3, z4, z5])
  all_goals repeat' (with_reducible (first | (refine And.intro ?_ ?_) | intro _))
  all_goals try ((refine lw_1298 hG hL i i0 i1 ihx _ _ ?_ ?_ ?_ ?_ ?_ ?_) <;> (try simp (maxDischargeDepth := 12) [l0, l1, l2, l3]))
  all_goals (first | omega | assumption | decide | skip)
set_option maxRecDepth 20000 in
set_option maxHeartbeats 4000000 in
theorem lc_days {G : zG} {us : Nat} {g : Nat → Nat → Int} {L : Nat} {X : Int → Int} (hG : SCR G L X) (hL : L ≤ 3072) (i : Int) (i0 : 0 ≤ i) (i1 : i + 6 ≤ L) (ihx : ∀ (ls : PL) (H : PH), pget ls 0 = some (2, -1) → pget ls 1 = some (2, 0) → pget ls 2 = some (2, 590) → pget ls 3 = some (0, i + 6) → TI g H → REL H → Tr G us kd_L_law 33 (zget kd_L_law 18) 18 ls [] H (fun r _ => r = some (0, 1))) : ∀ (ls : PL) (H : PH), pget ls 0 = some (2, -1) → pget ls 1 = some (2, 0) → pget ls 2 = some (2, 590) → pget ls 3 = some (0, i) → TI g H → REL H → Tr G us kd_L_law 33 (zget kd_L_law 1068) 1068 ls [] H (fun r _ => r = some (0, 1)) := by
  intro ls H l0 l1 l2 l3 hT hs
  have z1 : zw (i + 1) = i + 1 := zw_lit (by omega) (by omega)
  have z2 : zw (i + 2) = i + 2 := zw_lit (by omega) (by omega)
  have z3 : zw (i + 3) = i + 3 := zw_lit (by omega) (by omega)
  have z4 : zw (i + 4) = i + 4 := zw_lit (by omega) (by omega)
  have z5 : zw (i + 5) = i + 5 := zw_lit (by omega) (by omega)
  refine tr_labL (D := 32) (t := 1068) hG lb_1068 _ le_1068 ?_
  simp (maxDischargeDepth := 12) [lb_1068, wBL, wL, wI, k1, kI, kR, kL, k2, pget, parg, ppush, pcat, zw_lit, zw_m1, zw_m2, zw_m3, zNC_eq, zrow, pget_pss, pget_psx, nlg_some, nlg_none, sh_0, sh_590, l0, l1, l2, l3, z1, z2, z3, z4, z5]
  repeat' (with_reducible (first | (refine And.intro ?_ ?_) | intro _))
  all_goals try (refine Ca_use (rc_days (X (i + 1)) H hT hs (SCR_in hG (by omega) (by omega))) (by omega) ?_; rintro _ _ ⟨v, rfl, hT2, hs2⟩; simp (maxDischargeDepth := 12) [lb_1068, wBL, wL, wI, k1, kI, kR, kL, k2, pget, parg, ppush, pcat, zw_lit, zw_m1, zw_m2, zw_m3, zNC_eq, zrow, pget_pss, pget_psx, nlg_some, nlg_none, sh_0, sh_590, l0, l1, l2, l3, z1, z2, z3, z4, z5])
  all_goals repeat' (with_reducible (first | (refine And.intro ?_ ?_) | intro _))
  all_goals try (refine Ca_use (rm_days (X (i + 1)) _ _ hT2 hs2 (SCR_in hG (by omega) (by omega))) (by omega) ?_; rintro _ _ ⟨rfl, hT3, hs3⟩; simp (maxDischargeDepth := 12) [lb_1068, wBL, wL, wI, k1, kI, kR, kL, k2, pget, parg, ppush, pcat, zw_lit, zw_m1, zw_m2, zw_m3, zNC_eq, zrow, pget_pss, pget_psx, nlg_some, nlg_none, sh_0, sh_590, l0, l1, l2, l3, z1, z2, z3, z4, z5])
  all_goals repeat' (with_reducible (first | (refine And.intro ?_ ?_) | intro _))
  all_goals try ((refine lw_1298 hG hL i i0 i1 ihx _ _ ?_ ?_ ?_ ?_ ?_ ?_) <;> (try simp (maxDischargeDepth := 12) [l0, l1, l2, l3]))
  all_goals (first | omega | assumption | decide | skip)
set_option maxRecDepth 20000 in
set_option maxHeartbeats 4000000 in
theorem lc_rate {G : zG} {us : Nat} {g : Nat → Nat → Int} {L : Nat} {X : Int → Int} (hG : SCR G L X) (hL : L ≤ 3072) (i : Int) (i0 : 0 ≤ i) (i1 : i + 6 ≤ L) (ihx : ∀ (ls : PL) (H : PH), pget ls 0 = some (2, -1) → pget ls 1 = some (2, 0) → pget ls 2 = some (2, 590) → pget ls 3 = some (0, i + 6) → TI g H → REL H → Tr G us kd_L_law 33 (zget kd_L_law 18) 18 ls [] H (fun r _ => r = some (0, 1))) : ∀ (ls : PL) (H : PH), pget ls 0 = some (2, -1) → pget ls 1 = some (2, 0) → pget ls 2 = some (2, 590) → pget ls 3 = some (0, i) → TI g H → REL H → Tr G us kd_L_law 33 (zget kd_L_law 1091) 1091 ls [] H (fun r _ => r = some (0, 1)) := by
  intro ls H l0 l1 l2 l3 hT hs
  have z1 : zw (i + 1) = i + 1 := zw_lit (by omega) (by omega)
  have z2 : zw (i + 2) = i + 2 := zw_lit (by omega) (by omega)
  have z3 : zw (i + 3) = i + 3 := zw_lit (by omega) (by omega)
  have z4 : zw (i + 4) = i + 4 := zw_lit (by omega) (by omega)
  have z5 : zw (i + 5) = i + 5 := zw_lit (by omega) (by omega)
  refine tr_labL (D := 32) (t := 1091) hG lb_1091 _ le_1091 ?_
  simp (maxDischargeDepth := 12) [lb_1091, wBL, wL, wI, k1, kI, kR, kL, k2, pget, parg, ppush, pcat, zw_lit, zw_m1, zw_m2, zw_m3, zNC_eq, zrow, pget_pss, pget_psx, nlg_some, nlg_none, sh_0, sh_590, l0, l1, l2, l3, z1, z2, z3, z4, z5]
  repeat' (with_reducible (first | (refine And.intro ?_ ?_) | intro _))
  all_goals try (refine Ca_use (rc_rate (X (i + 1)) (X (i + 2)) H hT hs (SCR_in hG (by omega) (by omega)) (SCR_in hG (by omega) (by omega))) (by omega) ?_; rintro _ _ ⟨v, rfl, hT2, hs2⟩; simp (maxDischargeDepth := 12) [lb_1091, wBL, wL, wI, k1, kI, kR, kL, k2, pget, parg, ppush, pcat, zw_lit, zw_m1, zw_m2, zw_m3, zNC_eq, zrow, pget_pss, pget_psx, nlg_some, nlg_none, sh_0, sh_590, l0, l1, l2, l3, z1, z2, z3, z4, z5])
  all_goals repeat' (with_reducible (first | (refine And.intro ?_ ?_) | intro _))
  all_goals try (refine Ca_use (rm_rate (X (i + 1)) (X (i + 2)) _ _ hT2 hs2 (SCR_in hG (by omega) (by omega)) (SCR_in hG (by omega) (by omega))) (by omega) ?_; rintro _ _ ⟨rfl, hT3, hs3⟩; simp (maxDischargeDepth := 12) [lb_1091, wBL, wL, wI, k1, kI, kR, kL, k2, pget, parg, ppush, pcat, zw_lit, zw_m1, zw_m2, zw_m3, zNC_eq, zrow, pget_pss, pget_psx, nlg_some, nlg_none, sh_0, sh_590, l0, l1, l2, l3, z1, z2, z3, z4, z5])
  all_goals repeat' (with_reducible (first | (refine And.intro ?_ ?_) | intro _))
  all_goals try ((refine lw_1298 hG hL i i0 i1 ihx _ _ ?_ ?_ ?_ ?_ ?_ ?_) <;> (try simp (maxDischargeDepth := 12) [l0, l1, l2, l3]))
  all_goals (first | omega | assumption | decide | skip)
set_option maxRecDepth 20000 in
set_option maxHeartbeats 4000000 in
theorem lc_deliver {G : zG} {us : Nat} {g : Nat → Nat → Int} {L : Nat} {X : Int → Int} (hG : SCR G L X) (hL : L ≤ 3072) (i : Int) (i0 : 0 ≤ i) (i1 : i + 6 ≤ L) (ihx : ∀ (ls : PL) (H : PH), pget ls 0 = some (2, -1) → pget ls 1 = some (2, 0) → pget ls 2 = some (2, 590) → pget ls 3 = some (0, i + 6) → TI g H → REL H → Tr G us kd_L_law 33 (zget kd_L_law 18) 18 ls [] H (fun r _ => r = some (0, 1))) : ∀ (ls : PL) (H : PH), pget ls 0 = some (2, -1) → pget ls 1 = some (2, 0) → pget ls 2 = some (2, 590) → pget ls 3 = some (0, i) → TI g H → REL H → Tr G us kd_L_law 33 (zget kd_L_law 1124) 1124 ls [] H (fun r _ => r = some (0, 1)) := by
  intro ls H l0 l1 l2 l3 hT hs
  have z1 : zw (i + 1) = i + 1 := zw_lit (by omega) (by omega)
  have z2 : zw (i + 2) = i + 2 := zw_lit (by omega) (by omega)
  have z3 : zw (i + 3) = i + 3 := zw_lit (by omega) (by omega)
  have z4 : zw (i + 4) = i + 4 := zw_lit (by omega) (by omega)
  have z5 : zw (i + 5) = i + 5 := zw_lit (by omega) (by omega)
  refine tr_labL (D := 32) (t := 1124) hG lb_1124 _ le_1124 ?_
  simp (maxDischargeDepth := 12) [lb_1124, wBL, wL, wI, k1, kI, kR, kL, k2, pget, parg, ppush, pcat, zw_lit, zw_m1, zw_m2, zw_m3, zNC_eq, zrow, pget_pss, pget_psx, nlg_some, nlg_none, sh_0, sh_590, l0, l1, l2, l3, z1, z2, z3, z4, z5]
  repeat' (with_reducible (first | (refine And.intro ?_ ?_) | intro _))
  all_goals try (refine Ca_use (rc_deliver (X (i + 1)) (X (i + 2)) H hT hs (SCR_in hG (by omega) (by omega)) (SCR_in hG (by omega) (by omega))) (by omega) ?_; rintro _ _ ⟨v, rfl, hT2, hs2⟩; simp (maxDischargeDepth := 12) [lb_1124, wBL, wL, wI, k1, kI, kR, kL, k2, pget, parg, ppush, pcat, zw_lit, zw_m1, zw_m2, zw_m3, zNC_eq, zrow, pget_pss, pget_psx, nlg_some, nlg_none, sh_0, sh_590, l0, l1, l2, l3, z1, z2, z3, z4, z5])
  all_goals repeat' (with_reducible (first | (refine And.intro ?_ ?_) | intro _))
  all_goals try (refine Ca_use (rm_deliver (X (i + 1)) (X (i + 2)) _ _ hT2 hs2 (SCR_in hG (by omega) (by omega)) (SCR_in hG (by omega) (by omega))) (by omega) ?_; rintro _ _ ⟨rfl, hT3, hs3⟩; simp (maxDischargeDepth := 12) [lb_1124, wBL, wL, wI, k1, kI, kR, kL, k2, pget, parg, ppush, pcat, zw_lit, zw_m1, zw_m2, zw_m3, zNC_eq, zrow, pget_pss, pget_psx, nlg_some, nlg_none, sh_0, sh_590, l0, l1, l2, l3, z1, z2, z3, z4, z5])
  all_goals repeat' (with_reducible (first | (refine And.intro ?_ ?_) | intro _))
  all_goals try ((refine lw_1298 hG hL i i0 i1 ihx _ _ ?_ ?_ ?_ ?_ ?_ ?_) <;> (try simp (maxDischargeDepth := 12) [l0, l1, l2, l3]))
  all_goals (first | omega | assumption | decide | skip)
set_option maxRecDepth 20000 in
set_option maxHeartbeats 4000000 in
theorem lc_gone {G : zG} {us : Nat} {g : Nat → Nat → Int} {L : Nat} {X : Int → Int} (hG : SCR G L X) (hL : L ≤ 3072) (i : Int) (i0 : 0 ≤ i) (i1 : i + 6 ≤ L) (ihx : ∀ (ls : PL) (H : PH), pget ls 0 = some (2, -1) → pget ls 1 = some (2, 0) → pget ls 2 = some (2, 590) → pget ls 3 = some (0, i + 6) → TI g H → REL H → Tr G us kd_L_law 33 (zget kd_L_law 18) 18 ls [] H (fun r _ => r = some (0, 1))) : ∀ (ls : PL) (H : PH), pget ls 0 = some (2, -1) → pget ls 1 = some (2, 0) → pget ls 2 = some (2, 590) → pget ls 3 = some (0, i) → TI g H → REL H → Tr G us kd_L_law 33 (zget kd_L_law 1157) 1157 ls [] H (fun r _ => r = some (0, 1)) := by
  intro ls H l0 l1 l2 l3 hT hs
  have z1 : zw (i + 1) = i + 1 := zw_lit (by omega) (by omega)
  have z2 : zw (i + 2) = i + 2 := zw_lit (by omega) (by omega)
  have z3 : zw (i + 3) = i + 3 := zw_lit (by omega) (by omega)
  have z4 : zw (i + 4) = i + 4 := zw_lit (by omega) (by omega)
  have z5 : zw (i + 5) = i + 5 := zw_lit (by omega) (by omega)
  refine tr_labL (D := 32) (t := 1157) hG lb_1157 _ le_1157 ?_
  simp (maxDischargeDepth := 12) [lb_1157, wBL, wL, wI, k1, kI, kR, kL, k2, pget, parg, ppush, pcat, zw_lit, zw_m1, zw_m2, zw_m3, zNC_eq, zrow, pget_pss, pget_psx, nlg_some, nlg_none, sh_0, sh_590, l0, l1, l2, l3, z1, z2, z3, z4, z5]
  repeat' (with_reducible (first | (refine And.intro ?_ ?_) | intro _))
  all_goals try (refine Ca_use (rc_gone (X (i + 1)) H hT hs (SCR_in hG (by omega) (by omega))) (by omega) ?_; rintro _ _ ⟨v, rfl, hT2, hs2⟩; simp (maxDischargeDepth := 12) [lb_1157, wBL, wL, wI, k1, kI, kR, kL, k2, pget, parg, ppush, pcat, zw_lit, zw_m1, zw_m2, zw_m3, zNC_eq, zrow, pget_pss, pget_psx, nlg_some, nlg_none, sh_0, sh_590, l0, l1, l2, l3, z1, z2, z3, z4, z5])
  all_goals repeat' (with_reducible (first | (refine And.intro ?_ ?_) | intro _))
  all_goals try (refine Ca_use (rm_gone (X (i + 1)) _ hT2 hs2 (SCR_in hG (by omega) (by omega))) (by omega) ?_; rintro _ _ ⟨w, rfl, hT3, hs3⟩; simp (maxDischargeDepth := 12) [lb_1157, wBL, wL, wI, k1, kI, kR, kL, k2, pget, parg, ppush, pcat, zw_lit, zw_m1, zw_m2, zw_m3, zNC_eq, zrow, pget_pss, pget_psx, nlg_some, nlg_none, sh_0, sh_590, l0, l1, l2, l3, z1, z2, z3, z4, z5])
  all_goals repeat' (with_reducible (first | (refine And.intro ?_ ?_) | intro _))
  all_goals try ((refine lw_1298 hG hL i i0 i1 ihx _ _ ?_ ?_ ?_ ?_ ?_ ?_) <;> (try simp (maxDischargeDepth := 12) [l0, l1, l2, l3]))
  all_goals (first | omega | assumption | decide | skip)
set_option maxRecDepth 20000 in
set_option maxHeartbeats 4000000 in
theorem lc_settled {G : zG} {us : Nat} {g : Nat → Nat → Int} {L : Nat} {X : Int → Int} (hG : SCR G L X) (hL : L ≤ 3072) (i : Int) (i0 : 0 ≤ i) (i1 : i + 6 ≤ L) (ihx : ∀ (ls : PL) (H : PH), pget ls 0 = some (2, -1) → pget ls 1 = some (2, 0) → pget ls 2 = some (2, 590) → pget ls 3 = some (0, i + 6) → TI g H → REL H → Tr G us kd_L_law 33 (zget kd_L_law 18) 18 ls [] H (fun r _ => r = some (0, 1))) : ∀ (ls : PL) (H : PH), pget ls 0 = some (2, -1) → pget ls 1 = some (2, 0) → pget ls 2 = some (2, 590) → pget ls 3 = some (0, i) → TI g H → REL H → Tr G us kd_L_law 33 (zget kd_L_law 1180) 1180 ls [] H (fun r _ => r = some (0, 1)) := by
  intro ls H l0 l1 l2 l3 hT hs
  have z1 : zw (i + 1) = i + 1 := zw_lit (by omega) (by omega)
  have z2 : zw (i + 2) = i + 2 := zw_lit (by omega) (by omega)
  have z3 : zw (i + 3) = i + 3 := zw_lit (by omega) (by omega)
  have z4 : zw (i + 4) = i + 4 := zw_lit (by omega) (by omega)
  have z5 : zw (i + 5) = i + 5 := zw_lit (by omega) (by omega)
  refine tr_labL (D := 32) (t := 1180) hG lb_1180 _ le_1180 ?_
  simp (maxDischargeDepth := 12) [lb_1180, wBL, wL, wI, k1, kI, kR, kL, k2, pget, parg, ppush, pcat, zw_lit, zw_m1, zw_m2, zw_m3, zNC_eq, zrow, pget_pss, pget_psx, nlg_some, nlg_none, sh_0, sh_590, l0, l1, l2, l3, z1, z2, z3, z4, z5]
  repeat' (with_reducible (first | (refine And.intro ?_ ?_) | intro _))
  all_goals try (refine Ca_use (rc_settled (X (i + 1)) H hT hs (SCR_in hG (by omega) (by omega))) (by omega) ?_; rintro _ _ ⟨v, rfl, hT2, hs2⟩; simp (maxDischargeDepth := 12) [lb_1180, wBL, wL, wI, k1, kI, kR, kL, k2, pget, parg, ppush, pcat, zw_lit, zw_m1, zw_m2, zw_m3, zNC_eq, zrow, pget_pss, pget_psx, nlg_some, nlg_none, sh_0, sh_590, l0, l1, l2, l3, z1, z2, z3, z4, z5])
  all_goals repeat' (with_reducible (first | (refine And.intro ?_ ?_) | intro _))
  all_goals try (refine Ca_use (rm_settled (X (i + 1)) _ hT2 hs2 (SCR_in hG (by omega) (by omega))) (by omega) ?_; rintro _ _ ⟨w, rfl, hT3, hs3⟩; simp (maxDischargeDepth := 12) [lb_1180, wBL, wL, wI, k1, kI, kR, kL, k2, pget, parg, ppush, pcat, zw_lit, zw_m1, zw_m2, zw_m3, zNC_eq, zrow, pget_pss, pget_psx, nlg_some, nlg_none, sh_0, sh_590, l0, l1, l2, l3, z1, z2, z3, z4, z5])
  all_goals repeat' (with_reducible (first | (refine And.intro ?_ ?_) | intro _))
  all_goals try ((refine lw_1298 hG hL i i0 i1 ihx _ _ ?_ ?_ ?_ ?_ ?_ ?_) <;> (try simp (maxDischargeDepth := 12) [l0, l1, l2, l3]))
  all_goals (first | omega | assumption | decide | skip)
set_option maxRecDepth 20000 in
set_option maxHeartbeats 4000000 in
theorem lc_cure {G : zG} {us : Nat} {g : Nat → Nat → Int} {L : Nat} {X : Int → Int} (hG : SCR G L X) (hL : L ≤ 3072) (i : Int) (i0 : 0 ≤ i) (i1 : i + 6 ≤ L) (ihx : ∀ (ls : PL) (H : PH), pget ls 0 = some (2, -1) → pget ls 1 = some (2, 0) → pget ls 2 = some (2, 590) → pget ls 3 = some (0, i + 6) → TI g H → REL H → Tr G us kd_L_law 33 (zget kd_L_law 18) 18 ls [] H (fun r _ => r = some (0, 1))) : ∀ (ls : PL) (H : PH), pget ls 0 = some (2, -1) → pget ls 1 = some (2, 0) → pget ls 2 = some (2, 590) → pget ls 3 = some (0, i) → TI g H → REL H → Tr G us kd_L_law 33 (zget kd_L_law 1203) 1203 ls [] H (fun r _ => r = some (0, 1)) := by
  intro ls H l0 l1 l2 l3 hT hs
  have z1 : zw (i + 1) = i + 1 := zw_lit (by omega) (by omega)
  have z2 : zw (i + 2) = i + 2 := zw_lit (by omega) (by omega)
  have z3 : zw (i + 3) = i + 3 := zw_lit (by omega) (by omega)
  have z4 : zw (i + 4) = i + 4 := zw_lit (by omega) (by omega)
  have z5 : zw (i + 5) = i + 5 := zw_lit (by omega) (by omega)
  refine tr_labL (D := 32) (t := 1203) hG lb_1203 _ le_1203 ?_
  simp (maxDischargeDepth := 12) [lb_1203, wBL, wL, wI, k1, kI, kR, kL, k2, pget, parg, ppush, pcat, zw_lit, zw_m1, zw_m2, zw_m3, zNC_eq, zrow, pget_pss, pget_psx, nlg_some, nlg_none, sh_0, sh_590, l0, l1, l2, l3, z1, z2, z3, z4, z5]
  repeat' (with_reducible (first | (refine And.intro ?_ ?_) | intro _))
  all_goals try (refine Ca_use (rc_cure (X (i + 1)) H hT hs (SCR_in hG (by omega) (by omega))) (by omega) ?_; rintro _ _ ⟨v, rfl, hT2, hs2⟩; simp (maxDischargeDepth := 12) [lb_1203, wBL, wL, wI, k1, kI, kR, kL, k2, pget, parg, ppush, pcat, zw_lit, zw_m1, zw_m2, zw_m3, zNC_eq, zrow, pget_pss, pget_psx, nlg_some, nlg_none, sh_0, sh_590, l0, l1, l2, l3, z1, z2, z3, z4, z5])
  all_goals repeat' (with_reducible (first | (refine And.intro ?_ ?_) | intro _))
  all_goals try (refine Ca_use (rm_cure (X (i + 1)) _ hT2 hs2 (SCR_in hG (by omega) (by omega))) (by omega) ?_; rintro _ _ ⟨w, rfl, hT3, hs3⟩; simp (maxDischargeDepth := 12) [lb_1203, wBL, wL, wI, k1, kI, kR, kL, k2, pget, parg, ppush, pcat, zw_lit, zw_m1, zw_m2, zw_m3, zNC_eq, zrow, pget_pss, pget_psx, nlg_some, nlg_none, sh_0, sh_590, l0, l1, l2, l3, z1, z2, z3, z4, z5])
  all_goals repeat' (with_reducible (first | (refine And.intro ?_ ?_) | intro _))
  all_goals try ((refine lw_1298 hG hL i i0 i1 ihx _ _ ?_ ?_ ?_ ?_ ?_ ?_) <;> (try simp (maxDischargeDepth := 12) [l0, l1, l2, l3]))
  all_goals (first | omega | assumption | decide | skip)
set_option maxRecDepth 20000 in
set_option maxHeartbeats 4000000 in
theorem lc_strike {G : zG} {us : Nat} {g : Nat → Nat → Int} {L : Nat} {X : Int → Int} (hG : SCR G L X) (hL : L ≤ 3072) (i : Int) (i0 : 0 ≤ i) (i1 : i + 6 ≤ L) (ihx : ∀ (ls : PL) (H : PH), pget ls 0 = some (2, -1) → pget ls 1 = some (2, 0) → pget ls 2 = some (2, 590) → pget ls 3 = some (0, i + 6) → TI g H → REL H → Tr G us kd_L_law 33 (zget kd_L_law 18) 18 ls [] H (fun r _ => r = some (0, 1))) : ∀ (ls : PL) (H : PH), pget ls 0 = some (2, -1) → pget ls 1 = some (2, 0) → pget ls 2 = some (2, 590) → pget ls 3 = some (0, i) → TI g H → REL H → Tr G us kd_L_law 33 (zget kd_L_law 1226) 1226 ls [] H (fun r _ => r = some (0, 1)) := by
  intro ls H l0 l1 l2 l3 hT hs
  have z1 : zw (i + 1) = i + 1 := zw_lit (by omega) (by omega)
  have z2 : zw (i + 2) = i + 2 := zw_lit (by omega) (by omega)
  have z3 : zw (i + 3) = i + 3 := zw_lit (by omega) (by omega)
  have z4 : zw (i + 4) = i + 4 := zw_lit (by omega) (by omega)
  have z5 : zw (i + 5) = i + 5 := zw_lit (by omega) (by omega)
  refine tr_labL (D := 32) (t := 1226) hG lb_1226 _ le_1226 ?_
  simp (maxDischargeDepth := 12) [lb_1226, wBL, wL, wI, k1, kI, kR, kL, k2, pget, parg, ppush, pcat, zw_lit, zw_m1, zw_m2, zw_m3, zNC_eq, zrow, pget_pss, pget_psx, nlg_some, nlg_none, sh_0, sh_590, l0, l1, l2, l3, z1, z2, z3, z4, z5]
  repeat' (with_reducible (first | (refine And.intro ?_ ?_) | intro _))
  all_goals try (refine Ca_use (rc_strike (X (i + 1)) H hT hs (SCR_in hG (by omega) (by omega))) (by omega) ?_; rintro _ _ ⟨v, rfl, hT2, hs2⟩; simp (maxDischargeDepth := 12) [lb_1226, wBL, wL, wI, k1, kI, kR, kL, k2, pget, parg, ppush, pcat, zw_lit, zw_m1, zw_m2, zw_m3, zNC_eq, zrow, pget_pss, pget_psx, nlg_some, nlg_none, sh_0, sh_590, l0, l1, l2, l3, z1, z2, z3, z4, z5])
  all_goals repeat' (with_reducible (first | (refine And.intro ?_ ?_) | intro _))
  all_goals try (refine Ca_use (rm_strike (X (i + 1)) _ _ hT2 hs2 (SCR_in hG (by omega) (by omega))) (by omega) ?_; rintro _ _ ⟨rfl, hT3, hs3⟩; simp (maxDischargeDepth := 12) [lb_1226, wBL, wL, wI, k1, kI, kR, kL, k2, pget, parg, ppush, pcat, zw_lit, zw_m1, zw_m2, zw_m3, zNC_eq, zrow, pget_pss, pget_psx, nlg_some, nlg_none, sh_0, sh_590, l0, l1, l2, l3, z1, z2, z3, z4, z5])
  all_goals repeat' (with_reducible (first | (refine And.intro ?_ ?_) | intro _))
  all_goals try ((refine lw_1298 hG hL i i0 i1 ihx _ _ ?_ ?_ ?_ ?_ ?_ ?_) <;> (try simp (maxDischargeDepth := 12) [l0, l1, l2, l3]))
  all_goals (first | omega | assumption | decide | skip)
set_option maxRecDepth 20000 in
set_option maxHeartbeats 4000000 in
theorem lc_back {G : zG} {us : Nat} {g : Nat → Nat → Int} {L : Nat} {X : Int → Int} (hG : SCR G L X) (hL : L ≤ 3072) (i : Int) (i0 : 0 ≤ i) (i1 : i + 6 ≤ L) (ihx : ∀ (ls : PL) (H : PH), pget ls 0 = some (2, -1) → pget ls 1 = some (2, 0) → pget ls 2 = some (2, 590) → pget ls 3 = some (0, i + 6) → TI g H → REL H → Tr G us kd_L_law 33 (zget kd_L_law 18) 18 ls [] H (fun r _ => r = some (0, 1))) : ∀ (ls : PL) (H : PH), pget ls 0 = some (2, -1) → pget ls 1 = some (2, 0) → pget ls 2 = some (2, 590) → pget ls 3 = some (0, i) → TI g H → REL H → Tr G us kd_L_law 33 (zget kd_L_law 1249) 1249 ls [] H (fun r _ => r = some (0, 1)) := by
  intro ls H l0 l1 l2 l3 hT hs
  have z1 : zw (i + 1) = i + 1 := zw_lit (by omega) (by omega)
  have z2 : zw (i + 2) = i + 2 := zw_lit (by omega) (by omega)
  have z3 : zw (i + 3) = i + 3 := zw_lit (by omega) (by omega)
  have z4 : zw (i + 4) = i + 4 := zw_lit (by omega) (by omega)
  have z5 : zw (i + 5) = i + 5 := zw_lit (by omega) (by omega)
  refine tr_labL (D := 32) (t := 1249) hG lb_1249 _ le_1249 ?_
  simp (maxDischargeDepth := 12) [lb_1249, wBL, wL, wI, k1, kI, kR, kL, k2, pget, parg, ppush, pcat, zw_lit, zw_m1, zw_m2, zw_m3, zNC_eq, zrow, pget_pss, pget_psx, nlg_some, nlg_none, sh_0, sh_590, l0, l1, l2, l3, z1, z2, z3, z4, z5]
  repeat' (with_reducible (first | (refine And.intro ?_ ?_) | intro _))
  all_goals try (refine Ca_use (rc_back  H hT hs ) (by omega) ?_; rintro _ _ ⟨v, rfl, hT2, hs2⟩; simp (maxDischargeDepth := 12) [lb_1249, wBL, wL, wI, k1, kI, kR, kL, k2, pget, parg, ppush, pcat, zw_lit, zw_m1, zw_m2, zw_m3, zNC_eq, zrow, pget_pss, pget_psx, nlg_some, nlg_none, sh_0, sh_590, l0, l1, l2, l3, z1, z2, z3, z4, z5])
  all_goals repeat' (with_reducible (first | (refine And.intro ?_ ?_) | intro _))
  all_goals try (refine Ca_use (rm_back _ _ hT2 hs2 ) (by omega) ?_; rintro _ _ ⟨rfl, hT3, hs3⟩; simp (maxDischargeDepth := 12) [lb_1249, wBL, wL, wI, k1, kI, kR, kL, k2, pget, parg, ppush, pcat, zw_lit, zw_m1, zw_m2, zw_m3, zNC_eq, zrow, pget_pss, pget_psx, nlg_some, nlg_none, sh_0, sh_590, l0, l1, l2, l3, z1, z2, z3, z4, z5])
  all_goals repeat' (with_reducible (first | (refine And.intro ?_ ?_) | intro _))
  all_goals try ((refine lw_1298 hG hL i i0 i1 ihx _ _ ?_ ?_ ?_ ?_ ?_ ?_) <;> (try simp (maxDischargeDepth := 12) [l0, l1, l2, l3]))
  all_goals (first | omega | assumption | decide | skip)
set_option maxRecDepth 20000 in
set_option maxHeartbeats 4000000 in
theorem lc_write {G : zG} {us : Nat} {g : Nat → Nat → Int} {L : Nat} {X : Int → Int} (hG : SCR G L X) (hL : L ≤ 3072) (i : Int) (i0 : 0 ≤ i) (i1 : i + 6 ≤ L) (ihx : ∀ (ls : PL) (H : PH), pget ls 0 = some (2, -1) → pget ls 1 = some (2, 0) → pget ls 2 = some (2, 590) → pget ls 3 = some (0, i + 6) → TI g H → REL H → Tr G us kd_L_law 33 (zget kd_L_law 18) 18 ls [] H (fun r _ => r = some (0, 1))) : ∀ (ls : PL) (H : PH), pget ls 0 = some (2, -1) → pget ls 1 = some (2, 0) → pget ls 2 = some (2, 590) → pget ls 3 = some (0, i) → TI g H → REL H → Tr G us kd_L_law 33 (zget kd_L_law 1262) 1262 ls [] H (fun r _ => r = some (0, 1)) := by
  intro ls H l0 l1 l2 l3 hT hs
  have z1 : zw (i + 1) = i + 1 := zw_lit (by omega) (by omega)
  have z2 : zw (i + 2) = i + 2 := zw_lit (by omega) (by omega)
  have z3 : zw (i + 3) = i + 3 := zw_lit (by omega) (by omega)
  have z4 : zw (i + 4) = i + 4 := zw_lit (by omega) (by omega)
  have z5 : zw (i + 5) = i + 5 := zw_lit (by omega) (by omega)
  refine tr_labL (D := 32) (t := 1262) hG lb_1262 _ le_1262 ?_
  simp (maxDischargeDepth := 12) [lb_1262, wBL, wL, wI, k1, kI, kR, kL, k2, pget, parg, ppush, pcat, zw_lit, zw_m1, zw_m2, zw_m3, zNC_eq, zrow, pget_pss, pget_psx, nlg_some, nlg_none, sh_0, sh_590, l0, l1, l2, l3, z1, z2, z3, z4, z5]
  repeat' (with_reducible (first | (refine And.intro ?_ ?_) | intro _))
  all_goals try (refine Ca_use (rc_write  H hT hs ) (by omega) ?_; rintro _ _ ⟨v, rfl, hT2, hs2⟩; simp (maxDischargeDepth := 12) [lb_1262, wBL, wL, wI, k1, kI, kR, kL, k2, pget, parg, ppush, pcat, zw_lit, zw_m1, zw_m2, zw_m3, zNC_eq, zrow, pget_pss, pget_psx, nlg_some, nlg_none, sh_0, sh_590, l0, l1, l2, l3, z1, z2, z3, z4, z5])
  all_goals repeat' (with_reducible (first | (refine And.intro ?_ ?_) | intro _))
  all_goals try (refine Ca_use (rm_write  _ hT2 hs2 ) (by omega) ?_; rintro _ _ ⟨w, rfl, hT3, hs3⟩; simp (maxDischargeDepth := 12) [lb_1262, wBL, wL, wI, k1, kI, kR, kL, k2, pget, parg, ppush, pcat, zw_lit, zw_m1, zw_m2, zw_m3, zNC_eq, zrow, pget_pss, pget_psx, nlg_some, nlg_none, sh_0, sh_590, l0, l1, l2, l3, z1, z2, z3, z4, z5])
  all_goals repeat' (with_reducible (first | (refine And.intro ?_ ?_) | intro _))
  all_goals try ((refine lw_1298 hG hL i i0 i1 ihx _ _ ?_ ?_ ?_ ?_ ?_ ?_) <;> (try simp (maxDischargeDepth := 12) [l0, l1, l2, l3]))
  all_goals (first | omega | assumption | decide | skip)
set_option maxRecDepth 20000 in
set_option maxHeartbeats 4000000 in
theorem lc_octet {G : zG} {us : Nat} {g : Nat → Nat → Int} {L : Nat} {X : Int → Int} (hG : SCR G L X) (hL : L ≤ 3072) (i : Int) (i0 : 0 ≤ i) (i1 : i + 6 ≤ L) (ihx : ∀ (ls : PL) (H : PH), pget ls 0 = some (2, -1) → pget ls 1 = some (2, 0) → pget ls 2 = some (2, 590) → pget ls 3 = some (0, i + 6) → TI g H → REL H → Tr G us kd_L_law 33 (zget kd_L_law 18) 18 ls [] H (fun r _ => r = some (0, 1))) : ∀ (ls : PL) (H : PH), pget ls 0 = some (2, -1) → pget ls 1 = some (2, 0) → pget ls 2 = some (2, 590) → pget ls 3 = some (0, i) → TI g H → REL H → Tr G us kd_L_law 33 (zget kd_L_law 1275) 1275 ls [] H (fun r _ => r = some (0, 1)) := by
  intro ls H l0 l1 l2 l3 hT hs
  have z1 : zw (i + 1) = i + 1 := zw_lit (by omega) (by omega)
  have z2 : zw (i + 2) = i + 2 := zw_lit (by omega) (by omega)
  have z3 : zw (i + 3) = i + 3 := zw_lit (by omega) (by omega)
  have z4 : zw (i + 4) = i + 4 := zw_lit (by omega) (by omega)
  have z5 : zw (i + 5) = i + 5 := zw_lit (by omega) (by omega)
  refine tr_labL (D := 32) (t := 1275) hG lb_1275 _ le_1275 ?_
  simp (maxDischargeDepth := 12) [lb_1275, wBL, wL, wI, k1, kI, kR, kL, k2, pget, parg, ppush, pcat, zw_lit, zw_m1, zw_m2, zw_m3, zNC_eq, zrow, pget_pss, pget_psx, nlg_some, nlg_none, sh_0, sh_590, l0, l1, l2, l3, z1, z2, z3, z4, z5]
  repeat' (with_reducible (first | (refine And.intro ?_ ?_) | intro _))
  all_goals try (refine Ca_use (rc_octet (X (i + 1)) H hT hs (SCR_in hG (by omega) (by omega))) (by omega) ?_; rintro _ _ ⟨v, rfl, hT2, hs2⟩; simp (maxDischargeDepth := 12) [lb_1275, wBL, wL, wI, k1, kI, kR, kL, k2, pget, parg, ppush, pcat, zw_lit, zw_m1, zw_m2, zw_m3, zNC_eq, zrow, pget_pss, pget_psx, nlg_some, nlg_none, sh_0, sh_590, l0, l1, l2, l3, z1, z2, z3, z4, z5])
  all_goals repeat' (with_reducible (first | (refine And.intro ?_ ?_) | intro _))
  all_goals try (refine Ca_use (rm_octet (X (i + 1)) _ hT2 hs2 (SCR_in hG (by omega) (by omega))) (by omega) ?_; rintro _ _ ⟨w, rfl, hT3, hs3⟩; simp (maxDischargeDepth := 12) [lb_1275, wBL, wL, wI, k1, kI, kR, kL, k2, pget, parg, ppush, pcat, zw_lit, zw_m1, zw_m2, zw_m3, zNC_eq, zrow, pget_pss, pget_psx, nlg_some, nlg_none, sh_0, sh_590, l0, l1, l2, l3, z1, z2, z3, z4, z5])
  all_goals repeat' (with_reducible (first | (refine And.intro ?_ ?_) | intro _))
  all_goals try ((refine lw_1298 hG hL i i0 i1 ihx _ _ ?_ ?_ ?_ ?_ ?_ ?_) <;> (try simp (maxDischargeDepth := 12) [l0, l1, l2, l3]))
  all_goals (first | omega | assumption | decide | skip)
