theorem pup_app {H : PH} {c i v c' i' : Int} : pup H c i v c' i' = if c' = c ∧ i' = i then v else H c' i' := rfl
set_option maxRecDepth 20000 in
set_option maxHeartbeats 4000000 in
theorem ca_X12_isIn {G : zG} {us : Nat} (v lo hi : Int) (H : PH)  : Ca G us 1 156 [(0, v), (0, lo), (0, hi)] H (fun r H' => H = H' ∧ r = some (0, if lo ≤ v ∧ v ≤ hi then 1 else 0)) := by
  refine ⟨_, _, _, _, _, _, vm_X12_isIn, by simp [pcat], ?_⟩
  refine tr_lab (D := 0) (t := 0) vb_X12_isIn_0 _ ve_X12_isIn_0 ?_
  simp (maxDischargeDepth := 12) [vb_X12_isIn_0, wB, wI, k1, kI, kR, kL, k2, pget, pget_pset, pnl_pset, pnl_cons, pnl_nil, parg, ppush, pcat, zw_lit, zw_m1, zw_m2, zw_m3, zNC_eq, zrow, pup_app, sh_590]
  repeat' (with_reducible (first | (refine And.intro ?_ ?_) | intro _))
  all_goals try (refine tr_lab (D := 0) (t := 14) vb_X12_isIn_14 _ ve_X12_isIn_14 ?_; simp (maxDischargeDepth := 12) [vb_X12_isIn_14, wB, wI, k1, kI, kR, kL, k2, pget, pget_pset, pnl_pset, pnl_cons, pnl_nil, parg, ppush, pcat, zw_lit, zw_m1, zw_m2, zw_m3, zNC_eq, zrow, pup_app, sh_590])
  all_goals repeat' (with_reducible (first | (refine And.intro ?_ ?_) | intro _))
  all_goals try (refine tr_lab (D := 0) (t := 15) vb_X12_isIn_15 _ ve_X12_isIn_15 ?_; simp (maxDischargeDepth := 12) [vb_X12_isIn_15, wB, wI, k1, kI, kR, kL, k2, pget, pget_pset, pnl_pset, pnl_cons, pnl_nil, parg, ppush, pcat, zw_lit, zw_m1, zw_m2, zw_m3, zNC_eq, zrow, pup_app, sh_590])
  all_goals repeat' (with_reducible (first | (refine And.intro ?_ ?_) | intro _))
  all_goals omega

set_option maxRecDepth 20000 in
set_option maxHeartbeats 4000000 in
theorem ca_X12_isFigure {G : zG} {us : Nat} (c : Int) (H : PH)  : Ca G us 1 164 [(0, c)] H (fun r H' => H = H' ∧ r = some (0, if 48 ≤ c ∧ c ≤ 57 then 1 else 0)) := by
  refine ⟨_, _, _, _, _, _, vm_X12_isFigure, by simp [pcat], ?_⟩
  refine tr_lab (D := 0) (t := 0) vb_X12_isFigure_0 _ ve_X12_isFigure_0 ?_
  simp (maxDischargeDepth := 12) [vb_X12_isFigure_0, wB, wI, k1, kI, kR, kL, k2, pget, pget_pset, pnl_pset, pnl_cons, pnl_nil, parg, ppush, pcat, zw_lit, zw_m1, zw_m2, zw_m3, zNC_eq, zrow, pup_app, sh_590]
  repeat' (with_reducible (first | (refine And.intro ?_ ?_) | intro _))
  all_goals try (refine tr_lab (D := 0) (t := 16) vb_X12_isFigure_16 _ ve_X12_isFigure_16 ?_; simp (maxDischargeDepth := 12) [vb_X12_isFigure_16, wB, wI, k1, kI, kR, kL, k2, pget, pget_pset, pnl_pset, pnl_cons, pnl_nil, parg, ppush, pcat, zw_lit, zw_m1, zw_m2, zw_m3, zNC_eq, zrow, pup_app, sh_590])
  all_goals repeat' (with_reducible (first | (refine And.intro ?_ ?_) | intro _))
  all_goals try (refine tr_lab (D := 0) (t := 17) vb_X12_isFigure_17 _ ve_X12_isFigure_17 ?_; simp (maxDischargeDepth := 12) [vb_X12_isFigure_17, wB, wI, k1, kI, kR, kL, k2, pget, pget_pset, pnl_pset, pnl_cons, pnl_nil, parg, ppush, pcat, zw_lit, zw_m1, zw_m2, zw_m3, zNC_eq, zrow, pup_app, sh_590])
  all_goals repeat' (with_reducible (first | (refine And.intro ?_ ?_) | intro _))
  all_goals omega

set_option maxRecDepth 20000 in
set_option maxHeartbeats 4000000 in
theorem ca_X12_lesser {G : zG} {us : Nat} (a b : Int) (H : PH)  : Ca G us 1 191 [(0, a), (0, b)] H (fun r H' => H = H' ∧ r = some (0, if a < b then a else b)) := by
  refine ⟨_, _, _, _, _, _, vm_X12_lesser, by simp [pcat], ?_⟩
  refine tr_lab (D := 0) (t := 0) vb_X12_lesser_0 _ ve_X12_lesser_0 ?_
  simp (maxDischargeDepth := 12) [vb_X12_lesser_0, wB, wI, k1, kI, kR, kL, k2, pget, pget_pset, pnl_pset, pnl_cons, pnl_nil, parg, ppush, pcat, zw_lit, zw_m1, zw_m2, zw_m3, zNC_eq, zrow, pup_app, sh_590]
  repeat' (with_reducible (first | (refine And.intro ?_ ?_) | intro _))
  all_goals try (refine tr_lab (D := 0) (t := 9) vb_X12_lesser_9 _ ve_X12_lesser_9 ?_; simp (maxDischargeDepth := 12) [vb_X12_lesser_9, wB, wI, k1, kI, kR, kL, k2, pget, pget_pset, pnl_pset, pnl_cons, pnl_nil, parg, ppush, pcat, zw_lit, zw_m1, zw_m2, zw_m3, zNC_eq, zrow, pup_app, sh_590])
  all_goals repeat' (with_reducible (first | (refine And.intro ?_ ?_) | intro _))
  all_goals try (refine tr_lab (D := 0) (t := 10) vb_X12_lesser_10 _ ve_X12_lesser_10 ?_; simp (maxDischargeDepth := 12) [vb_X12_lesser_10, wB, wI, k1, kI, kR, kL, k2, pget, pget_pset, pnl_pset, pnl_cons, pnl_nil, parg, ppush, pcat, zw_lit, zw_m1, zw_m2, zw_m3, zNC_eq, zrow, pup_app, sh_590])
  all_goals repeat' (with_reducible (first | (refine And.intro ?_ ?_) | intro _))
  all_goals omega

set_option maxRecDepth 20000 in
set_option maxHeartbeats 4000000 in
theorem ca_X12_most {G : zG} {us : Nat} (a b : Int) (H : PH)  : Ca G us 1 192 [(0, a), (0, b)] H (fun r H' => H = H' ∧ r = some (0, if b < a then a else b)) := by
  refine ⟨_, _, _, _, _, _, vm_X12_most, by simp [pcat], ?_⟩
  refine tr_lab (D := 0) (t := 0) vb_X12_most_0 _ ve_X12_most_0 ?_
  simp (maxDischargeDepth := 12) [vb_X12_most_0, wB, wI, k1, kI, kR, kL, k2, pget, pget_pset, pnl_pset, pnl_cons, pnl_nil, parg, ppush, pcat, zw_lit, zw_m1, zw_m2, zw_m3, zNC_eq, zrow, pup_app, sh_590]
  repeat' (with_reducible (first | (refine And.intro ?_ ?_) | intro _))
  all_goals try (refine tr_lab (D := 0) (t := 9) vb_X12_most_9 _ ve_X12_most_9 ?_; simp (maxDischargeDepth := 12) [vb_X12_most_9, wB, wI, k1, kI, kR, kL, k2, pget, pget_pset, pnl_pset, pnl_cons, pnl_nil, parg, ppush, pcat, zw_lit, zw_m1, zw_m2, zw_m3, zNC_eq, zrow, pup_app, sh_590])
  all_goals repeat' (with_reducible (first | (refine And.intro ?_ ?_) | intro _))
  all_goals try (refine tr_lab (D := 0) (t := 10) vb_X12_most_10 _ ve_X12_most_10 ?_; simp (maxDischargeDepth := 12) [vb_X12_most_10, wB, wI, k1, kI, kR, kL, k2, pget, pget_pset, pnl_pset, pnl_cons, pnl_nil, parg, ppush, pcat, zw_lit, zw_m1, zw_m2, zw_m3, zNC_eq, zrow, pup_app, sh_590])
  all_goals repeat' (with_reducible (first | (refine And.intro ?_ ?_) | intro _))
  all_goals omega

set_option maxRecDepth 20000 in
set_option maxHeartbeats 4000000 in
theorem ca_X12_fails {G : zG} {us : Nat} (x : Int) (H : PH)  : Ca G us 1 166 [(2, 590), (0, x)] H (fun r H' => H' = pup H 590 6 x ∧ r = some (0, 0)) := by
  refine ⟨_, _, _, _, _, _, vm_X12_fails, by simp [pcat], ?_⟩
  refine tr_lab (D := 0) (t := 0) vb_X12_fails_0 _ ve_X12_fails_0 ?_
  simp (maxDischargeDepth := 12) [vb_X12_fails_0, wB, wI, k1, kI, kR, kL, k2, pget, pget_pset, pnl_pset, pnl_cons, pnl_nil, parg, ppush, pcat, zw_lit, zw_m1, zw_m2, zw_m3, zNC_eq, zrow, pup_app, pe, tg_12_6, zfit, zisI, sh_590]
  repeat' (with_reducible (first | (refine And.intro ?_ ?_) | intro _))
  all_goals omega

set_option maxRecDepth 20000 in
set_option maxHeartbeats 4000000 in
theorem ca_X12_fault {G : zG} {us : Nat}  (H : PH)  : Ca G us 1 168 [(2, 590)] H (fun r H' => H = H' ∧ r = some (0, H 590 6)) := by
  refine ⟨_, _, _, _, _, _, vm_X12_fault, by simp [pcat], ?_⟩
  refine tr_lab (D := 0) (t := 0) vb_X12_fault_0 _ ve_X12_fault_0 ?_
  simp (maxDischargeDepth := 12) [vb_X12_fault_0, wB, wI, k1, kI, kR, kL, k2, pget, pget_pset, pnl_pset, pnl_cons, pnl_nil, parg, ppush, pcat, zw_lit, zw_m1, zw_m2, zw_m3, zNC_eq, zrow, pup_app, gv_590_6, tg_12_6, sh_590]
  repeat' (with_reducible (first | (refine And.intro ?_ ?_) | intro _))
  all_goals omega

set_option maxRecDepth 20000 in
set_option maxHeartbeats 4000000 in
theorem ca_X12_billAt {G : zG} {us : Nat} (b : Int) (H : PH) (h0 : 0 ≤ b) (h1 : b ≤ 60) : Ca G us 1 174 [(0, b)] H (fun r H' => H = H' ∧ r = some (0, 92 + 26 * b)) := by
  refine ⟨_, _, _, _, _, _, vm_X12_billAt, by simp [pcat], ?_⟩
  refine tr_lab (D := 0) (t := 0) vb_X12_billAt_0 _ ve_X12_billAt_0 ?_
  simp (maxDischargeDepth := 12) [vb_X12_billAt_0, wB, wI, k1, kI, kR, kL, k2, pget, pget_pset, pnl_pset, pnl_cons, pnl_nil, parg, ppush, pcat, zw_lit, zw_m1, zw_m2, zw_m3, zNC_eq, zrow, pup_app, sh_590]
  repeat' (with_reducible (first | (refine And.intro ?_ ?_) | intro _))
  all_goals (simp [zw]; omega)

set_option maxRecDepth 20000 in
set_option maxHeartbeats 4000000 in
theorem ca_X12_lineAt {G : zG} {us : Nat} (k : Int) (H : PH) (h0 : 0 ≤ k) (h1 : k ≤ 60) : Ca G us 1 175 [(0, k)] H (fun r H' => H = H' ∧ r = some (0, 404 + 12 * k)) := by
  refine ⟨_, _, _, _, _, _, vm_X12_lineAt, by simp [pcat], ?_⟩
  refine tr_lab (D := 0) (t := 0) vb_X12_lineAt_0 _ ve_X12_lineAt_0 ?_
  simp (maxDischargeDepth := 12) [vb_X12_lineAt_0, wB, wI, k1, kI, kR, kL, k2, pget, pget_pset, pnl_pset, pnl_cons, pnl_nil, parg, ppush, pcat, zw_lit, zw_m1, zw_m2, zw_m3, zNC_eq, zrow, pup_app, sh_590]
  repeat' (with_reducible (first | (refine And.intro ?_ ?_) | intro _))
  all_goals (simp [zw]; omega)

set_option maxRecDepth 20000 in
set_option maxHeartbeats 4000000 in
theorem ca_X12_nameOf {G : zG} {us : Nat} (c : Int) (H : PH)  : Ca G us 1 184 [(0, c)] H (fun r H' => H = H' ∧ r = some (0, if c = 115 then 0 else if c = 111 then 1 else if c = 99 then 2 else -1)) := by
  refine ⟨_, _, _, _, _, _, vm_X12_nameOf, by simp [pcat], ?_⟩
  refine tr_lab (D := 0) (t := 0) vb_X12_nameOf_0 _ ve_X12_nameOf_0 ?_
  simp (maxDischargeDepth := 12) [vb_X12_nameOf_0, wB, wI, k1, kI, kR, kL, k2, pget, pget_pset, pnl_pset, pnl_cons, pnl_nil, parg, ppush, pcat, zw_lit, zw_m1, zw_m2, zw_m3, zNC_eq, zrow, pup_app, sh_590]
  repeat' (with_reducible (first | (refine And.intro ?_ ?_) | intro _))
  all_goals try (refine tr_lab (D := 0) (t := 10) vb_X12_nameOf_10 _ ve_X12_nameOf_10 ?_; simp (maxDischargeDepth := 12) [vb_X12_nameOf_10, wB, wI, k1, kI, kR, kL, k2, pget, pget_pset, pnl_pset, pnl_cons, pnl_nil, parg, ppush, pcat, zw_lit, zw_m1, zw_m2, zw_m3, zNC_eq, zrow, pup_app, sh_590])
  all_goals repeat' (with_reducible (first | (refine And.intro ?_ ?_) | intro _))
  all_goals try (refine tr_lab (D := 0) (t := 20) vb_X12_nameOf_20 _ ve_X12_nameOf_20 ?_; simp (maxDischargeDepth := 12) [vb_X12_nameOf_20, wB, wI, k1, kI, kR, kL, k2, pget, pget_pset, pnl_pset, pnl_cons, pnl_nil, parg, ppush, pcat, zw_lit, zw_m1, zw_m2, zw_m3, zNC_eq, zrow, pup_app, sh_590])
  all_goals repeat' (with_reducible (first | (refine And.intro ?_ ?_) | intro _))
  all_goals try (refine tr_lab (D := 0) (t := 30) vb_X12_nameOf_30 _ ve_X12_nameOf_30 ?_; simp (maxDischargeDepth := 12) [vb_X12_nameOf_30, wB, wI, k1, kI, kR, kL, k2, pget, pget_pset, pnl_pset, pnl_cons, pnl_nil, parg, ppush, pcat, zw_lit, zw_m1, zw_m2, zw_m3, zNC_eq, zrow, pup_app, sh_590])
  all_goals repeat' (with_reducible (first | (refine And.intro ?_ ?_) | intro _))
  all_goals try (refine tr_lab (D := 0) (t := 31) vb_X12_nameOf_31 _ ve_X12_nameOf_31 ?_; simp (maxDischargeDepth := 12) [vb_X12_nameOf_31, wB, wI, k1, kI, kR, kL, k2, pget, pget_pset, pnl_pset, pnl_cons, pnl_nil, parg, ppush, pcat, zw_lit, zw_m1, zw_m2, zw_m3, zNC_eq, zrow, pup_app, sh_590])
  all_goals repeat' (with_reducible (first | (refine And.intro ?_ ?_) | intro _))
  all_goals omega

set_option maxRecDepth 20000 in
set_option maxHeartbeats 4000000 in
theorem ca_X12_isSign {G : zG} {us : Nat} (c : Int) (H : PH)  : Ca G us 2 165 [(0, c)] H (fun r H' => H = H' ∧ r = some (0, if (48 ≤ c ∧ c ≤ 57) ∨ (65 ≤ c ∧ c ≤ 90) then 1 else 0)) := by
  refine ⟨_, _, _, _, _, _, vm_X12_isSign, by simp [pcat], ?_⟩
  refine tr_lab (D := 1) (t := 0) vb_X12_isSign_0 _ ve_X12_isSign_0 ?_
  simp (maxDischargeDepth := 12) [vb_X12_isSign_0, wB, wI, k1, kI, kR, kL, k2, pget, pget_pset, pnl_pset, pnl_cons, pnl_nil, parg, ppush, pcat, zw_lit, zw_m1, zw_m2, zw_m3, zNC_eq, zrow, pup_app, sh_590]
  repeat' (with_reducible (first | (refine And.intro ?_ ?_) | intro _))
  all_goals try (refine Ca_use (ca_X12_isFigure _ _) (by omega) ?_; rintro _ _ ⟨rfl, rfl⟩; simp (maxDischargeDepth := 12) [wB, wI, k1, kI, kR, kL, k2, pget, pget_pset, pnl_pset, pnl_cons, pnl_nil, parg, ppush, pcat, zw_lit, zw_m1, zw_m2, zw_m3, zNC_eq, zrow, pup_app, sh_590])
  all_goals repeat' (with_reducible (first | (refine And.intro ?_ ?_) | intro _))
  all_goals try (refine tr_lab (D := 1) (t := 19) vb_X12_isSign_19 _ ve_X12_isSign_19 ?_; simp (maxDischargeDepth := 12) [vb_X12_isSign_19, wB, wI, k1, kI, kR, kL, k2, pget, pget_pset, pnl_pset, pnl_cons, pnl_nil, parg, ppush, pcat, zw_lit, zw_m1, zw_m2, zw_m3, zNC_eq, zrow, pup_app, sh_590])
  all_goals repeat' (with_reducible (first | (refine And.intro ?_ ?_) | intro _))
  all_goals try (refine tr_lab (D := 1) (t := 23) vb_X12_isSign_23 _ ve_X12_isSign_23 ?_; simp (maxDischargeDepth := 12) [vb_X12_isSign_23, wB, wI, k1, kI, kR, kL, k2, pget, pget_pset, pnl_pset, pnl_cons, pnl_nil, parg, ppush, pcat, zw_lit, zw_m1, zw_m2, zw_m3, zNC_eq, zrow, pup_app, sh_590])
  all_goals repeat' (with_reducible (first | (refine And.intro ?_ ?_) | intro _))
  all_goals try (refine tr_lab (D := 1) (t := 24) vb_X12_isSign_24 _ ve_X12_isSign_24 ?_; simp (maxDischargeDepth := 12) [vb_X12_isSign_24, wB, wI, k1, kI, kR, kL, k2, pget, pget_pset, pnl_pset, pnl_cons, pnl_nil, parg, ppush, pcat, zw_lit, zw_m1, zw_m2, zw_m3, zNC_eq, zrow, pup_app, sh_590])
  all_goals repeat' (with_reducible (first | (refine And.intro ?_ ?_) | intro _))
  all_goals omega

def hr (H : PH) : Int := if H 590 5 < H 590 4 then q2 (· &&& ·) (H 593 (H 590 5)) 255 else -1
theorem hr_b (H : PH) : (H 590 5 < H 590 4 ∧ 0 ≤ hr H ∧ hr H ≤ 255) ∨ (¬ H 590 5 < H 590 4 ∧ hr H = -1) := by
  have hq := q2_and (x := H 593 (H 590 5)) (y := 255) (by omega) (by omega)
  unfold hr
  by_cases e : H 590 5 < H 590 4
  · rw [if_pos e]
    exact Or.inl ⟨e, hq⟩
  · rw [if_neg e]
    exact Or.inr ⟨e, rfl⟩
set_option maxRecDepth 20000 in
set_option maxHeartbeats 4000000 in
theorem ca_X12_here {G : zG} {us : Nat}  (H : PH) (h1 : 0 ≤ H 590 5) (h2 : H 590 4 ≤ 600) : Ca G us 1 163 [(2, 590)] H (fun r H' => H = H' ∧ r = some (0, hr H) ∧ ((H 590 5 < H 590 4 ∧ 0 ≤ hr H ∧ hr H ≤ 255) ∨ (¬ H 590 5 < H 590 4 ∧ hr H = -1))) := by
  have hb := hr_b H
  refine ⟨_, _, _, _, _, _, vm_X12_here, by simp [pcat], ?_⟩
  refine tr_lab (D := 0) (t := 0) vb_X12_here_0 _ ve_X12_here_0 ?_
  simp (maxDischargeDepth := 12) [vb_X12_here_0, wB, wI, k1, kI, kR, kL, k2, pget, pget_pset, pnl_pset, pnl_cons, pnl_nil, parg, ppush, pcat, zw_lit, zw_m1, zw_m2, zw_m3, zNC_eq, zrow, pup_app, gv_590_3, gv_590_4, gv_590_5, tg_12_3, tg_12_4, tg_12_5, sh_590, sh_593]
  repeat' (with_reducible (first | (refine And.intro ?_ ?_) | intro _))
  all_goals try (refine tr_lab (D := 0) (t := 27) vb_X12_here_27 _ ve_X12_here_27 ?_; simp (maxDischargeDepth := 12) [vb_X12_here_27, wB, wI, k1, kI, kR, kL, k2, pget, pget_pset, pnl_pset, pnl_cons, pnl_nil, parg, ppush, pcat, zw_lit, zw_m1, zw_m2, zw_m3, zNC_eq, zrow, pup_app, gv_590_3, gv_590_4, gv_590_5, tg_12_3, tg_12_4, tg_12_5, sh_590, sh_593])
  all_goals repeat' (with_reducible (first | (refine And.intro ?_ ?_) | intro _))
  all_goals try (refine tr_lab (D := 0) (t := 28) vb_X12_here_28 _ ve_X12_here_28 ?_; simp (maxDischargeDepth := 12) [vb_X12_here_28, wB, wI, k1, kI, kR, kL, k2, pget, pget_pset, pnl_pset, pnl_cons, pnl_nil, parg, ppush, pcat, zw_lit, zw_m1, zw_m2, zw_m3, zNC_eq, zrow, pup_app, gv_590_3, gv_590_4, gv_590_5, tg_12_3, tg_12_4, tg_12_5, sh_590, sh_593])
  all_goals repeat' (with_reducible (first | (refine And.intro ?_ ?_) | intro _))
  all_goals (first | omega | exact hb | ((try refine ⟨?_, hb⟩); unfold hr; split <;> (first | rfl | omega)))

set_option maxRecDepth 20000 in
set_option maxHeartbeats 4000000 in
theorem ca_X12_offers {G : zG} {us : Nat} (a b : Int) (H : PH)  : Ca G us 1 238 [(2, 590), (0, a), (0, b)] H (fun r H' => r = none ∧ (H = H' ∨ H' = pup (pup H 590 41 a) 590 42 b)) := by
  refine ⟨_, _, _, _, _, _, vm_X12_offers, by simp [pcat], ?_⟩
  refine tr_lab (D := 0) (t := 0) vb_X12_offers_0 _ ve_X12_offers_0 ?_
  simp (maxDischargeDepth := 12) [vb_X12_offers_0, wB, wI, k1, kI, kR, kL, k2, pget, pget_pset, pnl_pset, pnl_cons, pnl_nil, parg, ppush, pcat, zw_lit, zw_m1, zw_m2, zw_m3, zNC_eq, zrow, pup_app, gv_590_41, gv_590_42, pe, tg_12_41, tg_12_42, zfit, zisI, sh_590]
  repeat' (with_reducible (first | (refine And.intro ?_ ?_) | intro _))
  all_goals try (refine tr_lab (D := 0) (t := 24) vb_X12_offers_24 _ ve_X12_offers_24 ?_; simp (maxDischargeDepth := 12) [vb_X12_offers_24, wB, wI, k1, kI, kR, kL, k2, pget, pget_pset, pnl_pset, pnl_cons, pnl_nil, parg, ppush, pcat, zw_lit, zw_m1, zw_m2, zw_m3, zNC_eq, zrow, pup_app, gv_590_41, gv_590_42, pe, tg_12_41, tg_12_42, zfit, zisI, sh_590])
  all_goals repeat' (with_reducible (first | (refine And.intro ?_ ?_) | intro _))
  all_goals try (refine tr_lab (D := 0) (t := 25) vb_X12_offers_25 _ ve_X12_offers_25 ?_; simp (maxDischargeDepth := 12) [vb_X12_offers_25, wB, wI, k1, kI, kR, kL, k2, pget, pget_pset, pnl_pset, pnl_cons, pnl_nil, parg, ppush, pcat, zw_lit, zw_m1, zw_m2, zw_m3, zNC_eq, zrow, pup_app, gv_590_41, gv_590_42, pe, tg_12_41, tg_12_42, zfit, zisI, sh_590])
  all_goals repeat' (with_reducible (first | (refine And.intro ?_ ?_) | intro _))
  all_goals (first | omega | simp)

set_option maxRecDepth 20000 in
set_option maxHeartbeats 4000000 in
theorem ca_X12_isHold {G : zG} {us : Nat} (h : Int) (H : PH)  : Ca G us 2 240 [(0, h)] H (fun r H' => H = H' ∧ r = some (0, if 0 ≤ h ∧ h ≤ 4 then 1 else 0)) := by
  refine ⟨_, _, _, _, _, _, vm_X12_isHold, by simp [pcat], ?_⟩
  refine tr_lab (D := 1) (t := 0) vb_X12_isHold_0 _ ve_X12_isHold_0 ?_
  simp (maxDischargeDepth := 12) [vb_X12_isHold_0, wB, wI, k1, kI, kR, kL, k2, pget, pget_pset, pnl_pset, pnl_cons, pnl_nil, parg, ppush, pcat, zw_lit, zw_m1, zw_m2, zw_m3, zNC_eq, zrow, pup_app, sh_590]
  repeat' (with_reducible (first | (refine And.intro ?_ ?_) | intro _))
  all_goals try (refine Ca_use (ca_X12_isIn _ _ _ _) (by omega) ?_; rintro _ _ ⟨rfl, rfl⟩; simp (maxDischargeDepth := 12) [wB, wI, k1, kI, kR, kL, k2, pget, pget_pset, pnl_pset, pnl_cons, pnl_nil, parg, ppush, pcat, zw_lit, zw_m1, zw_m2, zw_m3, zNC_eq, zrow, pup_app, sh_590])
  all_goals repeat' (with_reducible (first | (refine And.intro ?_ ?_) | intro _))
  all_goals omega
