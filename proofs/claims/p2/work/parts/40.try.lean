theorem ca_X12_isIn {G : zG} {us : Nat} (v lo hi : Int) (H : PH) : Ca G us 1 156 [(0, v), (0, lo), (0, hi)] H (fun r H' => H' = H ∧ r = some (0, if lo ≤ v ∧ v ≤ hi then 1 else 0)) := by
  refine ⟨_, _, _, _, _, _, vm_X12_isIn, by simp [pcat], ?_⟩
  refine tr_lab (t := 0) vb_X12_isIn_0 _ ve_X12_isIn_0 ?_
  simp [vb_X12_isIn_0, wB, wI, k1, kI, k2, pget, parg, zw_lit]
  repeat' (with_reducible (first | (refine And.intro ?_ ?_) | intro _))
  all_goals try (refine tr_lab (t := 14) vb_X12_isIn_14 _ ve_X12_isIn_14 ?_; simp [vb_X12_isIn_14, wB, wI, k1, kI, k2, pget, parg, zw_lit])
  all_goals try (refine tr_lab (t := 15) vb_X12_isIn_15 _ ve_X12_isIn_15 ?_; simp [vb_X12_isIn_15, wB, wI, k1, kI, k2, pget, parg, zw_lit])
  all_goals omega
theorem ca_X12_lesser {G : zG} {us : Nat} (a b : Int) (H : PH) : Ca G us 1 191 [(0, a), (0, b)] H (fun r H' => H' = H ∧ r = some (0, if a < b then a else b)) := by
  refine ⟨_, _, _, _, _, _, vm_X12_lesser, by simp [pcat], ?_⟩
  refine tr_lab (t := 0) vb_X12_lesser_0 _ ve_X12_lesser_0 ?_
  simp [vb_X12_lesser_0, wB, wI, k1, kI, k2, pget, parg, zw_lit]
  repeat' (with_reducible (first | (refine And.intro ?_ ?_) | intro _))
  all_goals try (refine tr_lab (t := 9) vb_X12_lesser_9 _ ve_X12_lesser_9 ?_; simp [vb_X12_lesser_9, wB, wI, k1, kI, k2, pget, parg, zw_lit])
  all_goals try (refine tr_lab (t := 10) vb_X12_lesser_10 _ ve_X12_lesser_10 ?_; simp [vb_X12_lesser_10, wB, wI, k1, kI, k2, pget, parg, zw_lit])
  all_goals omega
theorem ca_X12_here {G : zG} {us : Nat} (H : PH) (h0 : H 590 3 = 593) (h1 : 0 ≤ H 590 5) (h2 : H 590 4 ≤ 600) : Ca G us 1 163 [(2, 590)] H (fun r H' => H' = H ∧ ∃ x, r = some (0, x) ∧ (H 590 5 < H 590 4 ∧ 0 ≤ x ∧ x < 256 ∨ ¬ H 590 5 < H 590 4 ∧ x = -1)) := by
  refine ⟨_, _, _, _, _, _, vm_X12_here, by simp [pcat], ?_⟩
  refine tr_lab (t := 0) vb_X12_here_0 _ ve_X12_here_0 ?_
  simp [vb_X12_here_0, wB, wI, k1, kI, kR, k2, pget, parg, zw_lit, zNC_eq, sh_590, sh_593, tg_12_5, tg_12_4, tg_12_3, zrow, h0]
  repeat' (with_reducible (first | (refine And.intro ?_ ?_) | intro _))
  all_goals try (refine tr_lab (t := 27) vb_X12_here_27 _ ve_X12_here_27 ?_; simp [vb_X12_here_27, wB, wI, k1, kI, kR, k2, pget, parg, zw_lit])
  all_goals try (refine tr_lab (t := 28) vb_X12_here_28 _ ve_X12_here_28 ?_; simp [vb_X12_here_28, wB, wI, k1, kI, kR, k2, pget, parg, zw_lit])
  all_goals trace_state
  all_goals sorry
