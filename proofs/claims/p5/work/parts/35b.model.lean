set_option maxRecDepth 20000 in
set_option maxHeartbeats 4000000 in
theorem lp_X12_isLike_2 {G : zG} {us : Nat} (x y : Int) (H : PH) (hc : H 591 1 ≤ 8) : ∀ (n : Nat) (ls : PL) (i : Int), (8 - i).toNat < n → pnl ls → pget ls 0 = some (2, 590) → pget ls 1 = some (0, x) → pget ls 2 = some (0, y) → pget ls 3 = some (0, i) → 0 ≤ i → Tr G us kd_X12_isLike 1 (zget kd_X12_isLike 2) 2 ls [] H (fun r H' => H = H' ∧ (r = some (0, 0) ∨ r = some (0, 1))) := by
  intro n
  induction n with
  | zero => intros; omega
  | succ n ih =>
    intro ls i hn hnl l0 l1 l2 l3 hi
    refine tr_lab (D := 0) (t := 2) vb_X12_isLike_2 _ ve_X12_isLike_2 ?_
    simp (maxDischargeDepth := 12) [vb_X12_isLike_2, wB, wI, k1, kI, kR, kL, k2, pget, pget_pset, pnl_pset, pnl_cons, pnl_nil, parg, ppush, pcat, zw_lit, zw_m1, zw_m2, zw_m3, zNC_eq, zrow, pup_app, gv_590_0, tg_12_0, sh_590, sh_591, hnl, l0, l1, l2, l3]
    repeat' (with_reducible (first | (refine And.intro ?_ ?_) | intro _))
    all_goals try (refine tr_lab (D := 0) (t := 52) vb_X12_isLike_52 _ ve_X12_isLike_52 ?_; simp (maxDischargeDepth := 12) [vb_X12_isLike_52, wB, wI, k1, kI, kR, kL, k2, pget, pget_pset, pnl_pset, pnl_cons, pnl_nil, parg, ppush, pcat, zw_lit, zw_m1, zw_m2, zw_m3, zNC_eq, zrow, pup_app, gv_590_0, tg_12_0, sh_590, sh_591, hnl, l0, l1, l2, l3])
    all_goals repeat' (with_reducible (first | (refine And.intro ?_ ?_) | intro _))
    all_goals try (refine tr_lab (D := 0) (t := 64) vb_X12_isLike_64 _ ve_X12_isLike_64 ?_; simp (maxDischargeDepth := 12) [vb_X12_isLike_64, wB, wI, k1, kI, kR, kL, k2, pget, pget_pset, pnl_pset, pnl_cons, pnl_nil, parg, ppush, pcat, zw_lit, zw_m1, zw_m2, zw_m3, zNC_eq, zrow, pup_app, gv_590_0, tg_12_0, sh_590, sh_591, hnl, l0, l1, l2, l3])
    all_goals repeat' (with_reducible (first | (refine And.intro ?_ ?_) | intro _))
    all_goals try (refine tr_lab (D := 0) (t := 66) vb_X12_isLike_66 _ ve_X12_isLike_66 ?_; simp (maxDischargeDepth := 12) [vb_X12_isLike_66, wB, wI, k1, kI, kR, kL, k2, pget, pget_pset, pnl_pset, pnl_cons, pnl_nil, parg, ppush, pcat, zw_lit, zw_m1, zw_m2, zw_m3, zNC_eq, zrow, pup_app, gv_590_0, tg_12_0, sh_590, sh_591, hnl, l0, l1, l2, l3])
    all_goals repeat' (with_reducible (first | (refine And.intro ?_ ?_) | intro _))
    all_goals try (refine tr_lab (D := 0) (t := 72) vb_X12_isLike_72 _ ve_X12_isLike_72 ?_; simp (maxDischargeDepth := 12) [vb_X12_isLike_72, wB, wI, k1, kI, kR, kL, k2, pget, pget_pset, pnl_pset, pnl_cons, pnl_nil, parg, ppush, pcat, zw_lit, zw_m1, zw_m2, zw_m3, zNC_eq, zrow, pup_app, gv_590_0, tg_12_0, sh_590, sh_591, hnl, l0, l1, l2, l3])
    all_goals repeat' (with_reducible (first | (refine And.intro ?_ ?_) | intro _))
    all_goals try (refine ih _ (i + 1) ?_ ?_ ?_ ?_ ?_ ?_ ?_)
    all_goals try simp (maxDischargeDepth := 12) [pget_pset, pnl_pset, pnl_cons, pnl_nil, pget, hnl, pup_app, l0, l1, l2, l3]
    all_goals (first | omega | ((simp (disch := omega) only [zw_lit]) <;> omega) | (simp only [zw]; omega))

set_option maxRecDepth 20000 in
set_option maxHeartbeats 4000000 in
theorem ca_X12_isLike {G : zG} {us : Nat} (x y : Int) (H : PH) (hc : H 591 1 ≤ 8) : Ca G us 1 173 [(2, 590), (0, x), (0, y)] H (fun r H' => H = H' ∧ (r = some (0, 0) ∨ r = some (0, 1))) := by
  refine ⟨_, _, _, _, _, _, vm_X12_isLike, by simp [pcat], ?_⟩
  refine tr_lab (D := 0) (t := 0) vb_X12_isLike_0 _ ve_X12_isLike_0 ?_
  simp (maxDischargeDepth := 12) [vb_X12_isLike_0, wB, wI, k1, kI, kR, kL, k2, pget, pget_pset, pnl_pset, pnl_cons, pnl_nil, parg, ppush, pcat, zw_lit, zw_m1, zw_m2, zw_m3, zNC_eq, zrow, pup_app, gv_590_0, tg_12_0, sh_590]
  repeat' (with_reducible (first | (refine And.intro ?_ ?_) | intro _))
  all_goals try ((refine lp_X12_isLike_2 x y H hc 9 _ 0 ?_ ?_ ?_ ?_ ?_ ?_ ?_) <;> (try simp [pget_pset, pnl_pset, pnl_cons, pnl_nil, pget, pup_app]))
  all_goals omega

set_option maxRecDepth 20000 in
set_option maxHeartbeats 4000000 in
theorem lp_X12_matchedTo_4 {G : zG} {us : Nat} (b : Int) (H : PH) (hb0 : 0 ≤ b) (hb1 : b ≤ 11) : ∀ (n : Nat) (ls : PL) (i : Int) (s : Int), (72 - i).toNat < n → pnl ls → pget ls 0 = some (2, 590) → pget ls 1 = some (0, b) → pget ls 2 = some (0, s) → pget ls 3 = some (0, i) → 0 ≤ i → Tr G us kd_X12_matchedTo 1 (zget kd_X12_matchedTo 4) 4 ls [] H (fun r H' => H = H' ∧ ∃ x, r = some (0, x)) := by
  intro n
  induction n with
  | zero => intros; omega
  | succ n ih =>
    intro ls i s hn hnl l0 l1 l2 l3 hi
    refine tr_lab (D := 0) (t := 4) vb_X12_matchedTo_4 _ ve_X12_matchedTo_4 ?_
    simp (maxDischargeDepth := 12) [vb_X12_matchedTo_4, wB, wI, k1, kI, kR, kL, k2, pget, pget_pset, pnl_pset, pnl_cons, pnl_nil, parg, ppush, pcat, zw_lit, zw_m1, zw_m2, zw_m3, zNC_eq, zrow, pup_app, gv_590_29, tg_12_29, sh_590, sh_608, hnl, l0, l1, l2, l3]
    repeat' (with_reducible (first | (refine And.intro ?_ ?_) | intro _))
    all_goals try (refine tr_lab (D := 0) (t := 30) vb_X12_matchedTo_30 _ ve_X12_matchedTo_30 ?_; simp (maxDischargeDepth := 12) [vb_X12_matchedTo_30, wB, wI, k1, kI, kR, kL, k2, pget, pget_pset, pnl_pset, pnl_cons, pnl_nil, parg, ppush, pcat, zw_lit, zw_m1, zw_m2, zw_m3, zNC_eq, zrow, pup_app, gv_590_29, tg_12_29, sh_590, sh_608, hnl, l0, l1, l2, l3])
    all_goals repeat' (with_reducible (first | (refine And.intro ?_ ?_) | intro _))
    all_goals try (refine ih _ (i + 1) (zw (s + H 608 (zw (zw (12 * i) + b)))) ?_ ?_ ?_ ?_ ?_ ?_ ?_)
    all_goals try simp (maxDischargeDepth := 12) [pget_pset, pnl_pset, pnl_cons, pnl_nil, pget, hnl, pup_app, l0, l1, l2, l3]
    all_goals (first | omega | ((simp (disch := omega) only [zw_lit]) <;> omega) | (simp only [zw]; omega))

set_option maxRecDepth 20000 in
set_option maxHeartbeats 4000000 in
theorem ca_X12_matchedTo {G : zG} {us : Nat} (b : Int) (H : PH) (hb0 : 0 ≤ b) (hb1 : b ≤ 11) : Ca G us 1 217 [(2, 590), (0, b)] H (fun r H' => H = H' ∧ ∃ x, r = some (0, x)) := by
  refine ⟨_, _, _, _, _, _, vm_X12_matchedTo, by simp [pcat], ?_⟩
  refine tr_lab (D := 0) (t := 0) vb_X12_matchedTo_0 _ ve_X12_matchedTo_0 ?_
  simp (maxDischargeDepth := 12) [vb_X12_matchedTo_0, wB, wI, k1, kI, kR, kL, k2, pget, pget_pset, pnl_pset, pnl_cons, pnl_nil, parg, ppush, pcat, zw_lit, zw_m1, zw_m2, zw_m3, zNC_eq, zrow, pup_app, gv_590_29, tg_12_29, sh_590]
  repeat' (with_reducible (first | (refine And.intro ?_ ?_) | intro _))
  all_goals try ((refine lp_X12_matchedTo_4 b H hb0 hb1 73 _ 0 0 ?_ ?_ ?_ ?_ ?_ ?_ ?_) <;> (try simp [pget_pset, pnl_pset, pnl_cons, pnl_nil, pget, pup_app]))
  all_goals omega

set_option maxRecDepth 20000 in
set_option maxHeartbeats 4000000 in
theorem lp_X12_isSame_20 {G : zG} {us : Nat} (a b c d : Int) (H : PH) (ha : 0 ≤ a ∧ a ≤ 1123) (hb : 0 ≤ b ∧ b ≤ 1116) (hc : 0 ≤ c ∧ c ≤ 1123) (hd : 0 ≤ d ∧ d ≤ 1116) (hA : H 591 a ≤ 8) : ∀ (n : Nat) (ls : PL) (i : Int), (8 - i).toNat < n → pnl ls → pget ls 0 = some (2, 590) → pget ls 1 = some (0, a) → pget ls 2 = some (0, b) → pget ls 3 = some (0, c) → pget ls 4 = some (0, d) → pget ls 5 = some (0, i) → 0 ≤ i → Tr G us kd_X12_isSame 1 (zget kd_X12_isSame 20) 20 ls [] H (fun r H' => H = H' ∧ (r = some (0, 0) ∨ r = some (0, 1))) := by
  intro n
  induction n with
  | zero => intros; omega
  | succ n ih =>
    intro ls i hn hnl l0 l1 l2 l3 l4 l5 hi
    refine tr_lab (D := 0) (t := 20) vb_X12_isSame_20 _ ve_X12_isSame_20 ?_
    simp (maxDischargeDepth := 12) [vb_X12_isSame_20, wB, wI, k1, kI, kR, kL, k2, pget, pget_pset, pnl_pset, pnl_cons, pnl_nil, parg, ppush, pcat, zw_lit, zw_m1, zw_m2, zw_m3, zNC_eq, zrow, pup_app, gv_590_0, tg_12_0, sh_590, sh_591, hnl, l0, l1, l2, l3, l4, l5]
    repeat' (with_reducible (first | (refine And.intro ?_ ?_) | intro _))
    all_goals try (refine tr_lab (D := 0) (t := 55) vb_X12_isSame_55 _ ve_X12_isSame_55 ?_; simp (maxDischargeDepth := 12) [vb_X12_isSame_55, wB, wI, k1, kI, kR, kL, k2, pget, pget_pset, pnl_pset, pnl_cons, pnl_nil, parg, ppush, pcat, zw_lit, zw_m1, zw_m2, zw_m3, zNC_eq, zrow, pup_app, gv_590_0, tg_12_0, sh_590, sh_591, hnl, l0, l1, l2, l3, l4, l5])
    all_goals repeat' (with_reducible (first | (refine And.intro ?_ ?_) | intro _))
    all_goals try (refine tr_lab (D := 0) (t := 61) vb_X12_isSame_61 _ ve_X12_isSame_61 ?_; simp (maxDischargeDepth := 12) [vb_X12_isSame_61, wB, wI, k1, kI, kR, kL, k2, pget, pget_pset, pnl_pset, pnl_cons, pnl_nil, parg, ppush, pcat, zw_lit, zw_m1, zw_m2, zw_m3, zNC_eq, zrow, pup_app, gv_590_0, tg_12_0, sh_590, sh_591, hnl, l0, l1, l2, l3, l4, l5])
    all_goals repeat' (with_reducible (first | (refine And.intro ?_ ?_) | intro _))
    all_goals try (refine ih _ (i + 1) ?_ ?_ ?_ ?_ ?_ ?_ ?_ ?_ ?_)
    all_goals try simp (maxDischargeDepth := 12) [pget_pset, pnl_pset, pnl_cons, pnl_nil, pget, hnl, pup_app, l0, l1, l2, l3, l4, l5]
    all_goals (first | omega | ((simp (disch := omega) only [zw_lit]) <;> omega) | (simp only [zw]; omega))

set_option maxRecDepth 20000 in
set_option maxHeartbeats 4000000 in
theorem ca_X12_isSame {G : zG} {us : Nat} (a b c d : Int) (H : PH) (ha : 0 ≤ a ∧ a ≤ 1123) (hb : 0 ≤ b ∧ b ≤ 1116) (hc : 0 ≤ c ∧ c ≤ 1123) (hd : 0 ≤ d ∧ d ≤ 1116) (hA : H 591 a ≤ 8) : Ca G us 1 176 [(2, 590), (0, a), (0, b), (0, c), (0, d)] H (fun r H' => H = H' ∧ (r = some (0, 0) ∨ r = some (0, 1))) := by
  refine ⟨_, _, _, _, _, _, vm_X12_isSame, by simp [pcat], ?_⟩
  refine tr_lab (D := 0) (t := 0) vb_X12_isSame_0 _ ve_X12_isSame_0 ?_
  simp (maxDischargeDepth := 12) [vb_X12_isSame_0, wB, wI, k1, kI, kR, kL, k2, pget, pget_pset, pnl_pset, pnl_cons, pnl_nil, parg, ppush, pcat, zw_lit, zw_m1, zw_m2, zw_m3, zNC_eq, zrow, pup_app, gv_590_0, tg_12_0, sh_590, sh_591]
  repeat' (with_reducible (first | (refine And.intro ?_ ?_) | intro _))
  all_goals try (refine tr_lab (D := 0) (t := 17) vb_X12_isSame_17 _ ve_X12_isSame_17 ?_; simp (maxDischargeDepth := 12) [vb_X12_isSame_17, wB, wI, k1, kI, kR, kL, k2, pget, pget_pset, pnl_pset, pnl_cons, pnl_nil, parg, ppush, pcat, zw_lit, zw_m1, zw_m2, zw_m3, zNC_eq, zrow, pup_app, gv_590_0, tg_12_0, sh_590, sh_591])
  all_goals repeat' (with_reducible (first | (refine And.intro ?_ ?_) | intro _))
  all_goals try ((refine lp_X12_isSame_20 a b c d H ha hb hc hd hA 9 _ 0 ?_ ?_ ?_ ?_ ?_ ?_ ?_ ?_ ?_) <;> (try simp [pget_pset, pnl_pset, pnl_cons, pnl_nil, pget, pup_app]))
  all_goals omega

set_option maxRecDepth 20000 in
set_option maxHeartbeats 4000000 in
theorem ca_X12_countItems {G : zG} {us : Nat}  (H : PH)  : Ca G us 1 181 [(2, 590)] H (fun r H' => H = H' ∧ ∃ x, r = some (0, x)) := by
  refine ⟨_, _, _, _, _, _, vm_X12_countItems, by simp [pcat], ?_⟩
  refine tr_lab (D := 0) (t := 0) vb_X12_countItems_0 _ ve_X12_countItems_0 ?_
  simp (maxDischargeDepth := 12) [vb_X12_countItems_0, wB, wI, k1, kI, kR, kL, k2, pget, pget_pset, pnl_pset, pnl_cons, pnl_nil, parg, ppush, pcat, zw_lit, zw_m1, zw_m2, zw_m3, zNC_eq, zrow, pup_app, gv_590_0, tg_12_0, sh_590, sh_591]
  repeat' (with_reducible (first | (refine And.intro ?_ ?_) | intro _))
  all_goals omega

set_option maxRecDepth 20000 in
set_option maxHeartbeats 4000000 in
theorem ca_X12_does {G : zG} {us : Nat} (x : Int) (H : PH) (h0 : 0 ≤ H 590 10) (h1 : H 590 10 ≤ 63) : Ca G us 1 183 [(2, 590), (0, x)] H (fun r H' => H' = pup (pup H 595 (H 590 10) x) 590 10 (H 590 10 + 1) ∧ r = none) := by
  refine ⟨_, _, _, _, _, _, vm_X12_does, by simp [pcat], ?_⟩
  refine tr_lab (D := 0) (t := 0) vb_X12_does_0 _ ve_X12_does_0 ?_
  simp (maxDischargeDepth := 12) [vb_X12_does_0, wB, wI, k1, kI, kR, kL, k2, pget, pget_pset, pnl_pset, pnl_cons, pnl_nil, parg, ppush, pcat, zw_lit, zw_m1, zw_m2, zw_m3, zNC_eq, zrow, pup_app, gv_590_10, gv_590_9, pe, tg_12_10, tg_12_9, zfit, zisI, sh_590, sh_595]
  repeat' (with_reducible (first | (refine And.intro ?_ ?_) | intro _))
  all_goals (first | omega | (simp only [zw]; congr 1; omega))

set_option maxRecDepth 20000 in
set_option maxHeartbeats 4000000 in
theorem ca_X12_isBill {G : zG} {us : Nat} (b : Int) (H : PH) (h0 : 0 ≤ H 591 0) (h1 : H 591 0 ≤ 12) : Ca G us 2 198 [(2, 590), (0, b)] H (fun r H' => H = H' ∧ r = some (0, if 0 ≤ b ∧ b ≤ H 591 0 - 1 then 1 else 0)) := by
  refine ⟨_, _, _, _, _, _, vm_X12_isBill, by simp [pcat], ?_⟩
  refine tr_lab (D := 1) (t := 0) vb_X12_isBill_0 _ ve_X12_isBill_0 ?_
  simp (maxDischargeDepth := 12) [vb_X12_isBill_0, wB, wI, k1, kI, kR, kL, k2, pget, pget_pset, pnl_pset, pnl_cons, pnl_nil, parg, ppush, pcat, zw_lit, zw_m1, zw_m2, zw_m3, zNC_eq, zrow, pup_app, gv_590_0, tg_12_0, sh_590, sh_591]
  repeat' (with_reducible (first | (refine And.intro ?_ ?_) | intro _))
  all_goals try (refine Ca_use (ca_X12_isIn _ _ _ _) (by omega) ?_; rintro _ _ ⟨rfl, rfl⟩; simp (maxDischargeDepth := 12) [wB, wI, k1, kI, kR, kL, k2, pget, pget_pset, pnl_pset, pnl_cons, pnl_nil, parg, ppush, pcat, zw_lit, zw_m1, zw_m2, zw_m3, zNC_eq, zrow, pup_app, gv_590_0, tg_12_0, sh_590, sh_591])
  all_goals repeat' (with_reducible (first | (refine And.intro ?_ ?_) | intro _))
  all_goals (first | omega | ((simp (disch := omega) only [zw_lit]) <;> omega) | (simp only [zw]; omega))

set_option maxRecDepth 20000 in
set_option maxHeartbeats 4000000 in
theorem ca_X12_isLine {G : zG} {us : Nat} (b : Int) (H : PH) (h0 : 0 ≤ H 591 2) (h1 : H 591 2 ≤ 60) : Ca G us 2 199 [(2, 590), (0, b)] H (fun r H' => H = H' ∧ r = some (0, if 0 ≤ b ∧ b ≤ H 591 2 - 1 then 1 else 0)) := by
  refine ⟨_, _, _, _, _, _, vm_X12_isLine, by simp [pcat], ?_⟩
  refine tr_lab (D := 1) (t := 0) vb_X12_isLine_0 _ ve_X12_isLine_0 ?_
  simp (maxDischargeDepth := 12) [vb_X12_isLine_0, wB, wI, k1, kI, kR, kL, k2, pget, pget_pset, pnl_pset, pnl_cons, pnl_nil, parg, ppush, pcat, zw_lit, zw_m1, zw_m2, zw_m3, zNC_eq, zrow, pup_app, gv_590_0, tg_12_0, sh_590, sh_591]
  repeat' (with_reducible (first | (refine And.intro ?_ ?_) | intro _))
  all_goals try (refine Ca_use (ca_X12_isIn _ _ _ _) (by omega) ?_; rintro _ _ ⟨rfl, rfl⟩; simp (maxDischargeDepth := 12) [wB, wI, k1, kI, kR, kL, k2, pget, pget_pset, pnl_pset, pnl_cons, pnl_nil, parg, ppush, pcat, zw_lit, zw_m1, zw_m2, zw_m3, zNC_eq, zrow, pup_app, gv_590_0, tg_12_0, sh_590, sh_591])
  all_goals repeat' (with_reducible (first | (refine And.intro ?_ ?_) | intro _))
  all_goals (first | omega | ((simp (disch := omega) only [zw_lit]) <;> omega) | (simp only [zw]; omega))

set_option maxRecDepth 20000 in
set_option maxHeartbeats 4000000 in
theorem ca_X12_bearing {G : zG} {us : Nat} (k : Int) (H : PH) (h0 : 0 ≤ k) (h1 : k ≤ 59) : Ca G us 2 236 [(2, 590), (0, k)] H (fun r H' => H = H' ∧ r = some (0, H 591 (404 + 12 * k + 2))) := by
  refine ⟨_, _, _, _, _, _, vm_X12_bearing, by simp [pcat], ?_⟩
  refine tr_lab (D := 1) (t := 0) vb_X12_bearing_0 _ ve_X12_bearing_0 ?_
  simp (maxDischargeDepth := 12) [vb_X12_bearing_0, wB, wI, k1, kI, kR, kL, k2, pget, pget_pset, pnl_pset, pnl_cons, pnl_nil, parg, ppush, pcat, zw_lit, zw_m1, zw_m2, zw_m3, zNC_eq, zrow, pup_app, gv_590_0, tg_12_0, sh_590, sh_591]
  repeat' (with_reducible (first | (refine And.intro ?_ ?_) | intro _))
  all_goals try (refine Ca_use (ca_X12_lineAt _ _ (by omega) (by omega)) (by omega) ?_; rintro _ _ ⟨rfl, rfl⟩; simp (maxDischargeDepth := 12) [wB, wI, k1, kI, kR, kL, k2, pget, pget_pset, pnl_pset, pnl_cons, pnl_nil, parg, ppush, pcat, zw_lit, zw_m1, zw_m2, zw_m3, zNC_eq, zrow, pup_app, gv_590_0, tg_12_0, sh_590, sh_591])
  all_goals repeat' (with_reducible (first | (refine And.intro ?_ ?_) | intro _))
  all_goals (first | omega | ((simp (disch := omega) only [zw_lit]) <;> omega) | (simp only [zw]; omega))
