/-! ===== undo, back of the class ===== -/
def SME (H H' : PH) : Prop := SC H H' ∧ H' 1 2 = H 1 2 ∧ (∀ x, 0 ≤ x → x ≤ 11 → rem H' x = rem H x) ∧ H' 213 1 = H 213 1
theorem SME_trans {H H' H'' : PH} (h : SME H H') (h' : SME H' H'') : SME H H'' := ⟨SC_trans h.1 h'.1, h'.2.1.trans h.2.1, fun x a b => (h'.2.2.1 x a b).trans (h.2.2.1 x a b), h'.2.2.2.trans h.2.2.2⟩
theorem SME_pup {H : PH} {c i v : Int} (h1 : ¬ (c = 1 ∧ i = 2)) (h0 : ¬ (c = 0 ∧ (i = 7 ∨ i = 8))) (hb : ¬ (57 ≤ c ∧ c ≤ 90 ∧ i = 5)) (hd : ¬ (469 ≤ c ∧ c ≤ 583 ∧ 0 ≤ i ∧ i ≤ 3)) (ht : c ≠ 213) : SME H (pup H c i v) := by
  refine ⟨⟨if_neg (fun q => h0 ⟨q.1.symm, Or.inl q.2.symm⟩), if_neg (fun q => h0 ⟨q.1.symm, Or.inr q.2.symm⟩), fun j j0 j1 => ?_⟩, if_neg (fun q => h1 ⟨q.1.symm, q.2.symm⟩), fun x x0 x1 => if_neg (fun q => hb ⟨by have := q.1; omega, by have := q.1; omega, q.2.symm⟩), if_neg (fun q => ht q.1.symm)⟩
  have k : ∀ z : Int, 0 ≤ z → z ≤ 3 → pup H c i v (469 + 6 * j) z = H (469 + 6 * j) z := fun z z0 z1 => if_neg (fun q => hd ⟨by have := q.1; omega, by have := q.1; omega, by have := q.2; omega, by have := q.2; omega⟩)
  unfold ent
  rw [k 0 (by omega) (by omega), k 1 (by omega) (by omega), k 2 (by omega) (by omega), k 3 (by omega) (by omega)]
theorem rd_deed {lv : Nat} {g : Nat → Nat → Int} {H : PH} {l : Int} (h : WT lv g H) (l0 : 0 ≤ l) (l1 : l ≤ 19) : (-2147483648 ≤ H (469 + 6 * l) 0 ∧ H (469 + 6 * l) 0 ≤ 2147483647) ∧ (-2147483648 ≤ H (469 + 6 * l) 1 ∧ H (469 + 6 * l) 1 ≤ 2147483647) ∧ (-2147483648 ≤ H (469 + 6 * l) 2 ∧ H (469 + 6 * l) 2 ≤ 2147483647) ∧ (-2147483648 ≤ H (469 + 6 * l) 3 ∧ H (469 + 6 * l) 3 ≤ 2147483647) := by
  have hs := sh_deedN l.toNat (by omega)
  have ec : ((469 + 6 * l.toNat : Nat) : Int) = 469 + 6 * l := by omega
  have gd := gv_deed (X := H) l0 l1
  have q : ∀ i : Nat, i < 4 → fty 2 i = (0, -2147483648, 2147483647, 1) → -2147483648 ≤ gv H (469 + 6 * l) i ∧ gv H (469 + 6 * l) i ≤ 2147483647 := fun i hi hf => by
    have := (h (469 + 6 * l.toNat) i (by omega) (by rw [hs.2.1]; omega)).1
    rw [hs.2.2.2.2.2.2.2.2, ec, hf] at this
    exact ⟨(this.2.1 rfl).1, (this.2.1 rfl).2.1⟩
  have q0 := q 0 (by decide) (by decide +kernel)
  have q1 := q 1 (by decide) (by decide +kernel)
  have q2' := q 2 (by decide) (by decide +kernel)
  have q3 := q 3 (by decide) (by decide +kernel)
  have e0 : ((0 : Nat) : Int) = 0 := rfl
  have e1 : ((1 : Nat) : Int) = 1 := rfl
  have e2 : ((2 : Nat) : Int) = 2 := rfl
  have e3 : ((3 : Nat) : Int) = 3 := rfl
  rw [e0, gd.1] at q0
  rw [e1, gd.2.1] at q1
  rw [e2, gd.2.2.1] at q2'
  rw [e3, gd.2.2.2] at q3
  exact ⟨q0, q1, q2', q3⟩

set_option maxRecDepth 20000 in
set_option maxHeartbeats 4000000 in
theorem ca_undo_4 {G : zG} {us : Nat} {g : Nat → Nat → Int} (l : Int) (c : Int) (H : PH) (hc : c = 469 + 6 * l) (hW : WT 2 g H) (hM : IM H) (l0 : 0 ≤ l) (l1 : l ≤ 19) (hk : H c 0 = 4)  : Ca G us 7 31 [(2, c), (2, 1)] H (fun r H' => r = none ∧ WT 2 g H' ∧ frm [0, 1, 2, 3, 5, 6, 9, 11, 34, 35, 36, 37, 38, 39, 40, 41, 42, 43, 44, 45, 46, 47, 48, 49, 50, 51, 53, 54, 55, 56, 57, 58, 59, 60, 61, 62, 63, 64, 65, 66, 67, 68, 69, 70, 71, 72, 73, 74, 75, 76, 77, 4, 10, 8] H H' ∧ IM H' ∧ SME H H') := by
  have c0 : 0 ≤ c := by omega
  have c1 : c < 622 := by omega
  have s1 : (zSh c.toNat).1 = 2 := by rw [hc]; exact (sh_deed l0 l1).1
  have s2 : (zSh c.toNat).2.1 = 6 := by rw [hc]; exact (sh_deed l0 l1).2.1
  have w0 : ∀ X : PH, gv X c 0 = X c 0 := fun X => by rw [hc]; exact (gv_deed l0 l1).1
  have w1 : ∀ X : PH, gv X c 1 = X c 1 := fun X => by rw [hc]; exact (gv_deed l0 l1).2.1
  have w2 : ∀ X : PH, gv X c 2 = X c 2 := fun X => by rw [hc]; exact (gv_deed l0 l1).2.2.1
  have w3 : ∀ X : PH, gv X c 3 = X c 3 := fun X => by rw [hc]; exact (gv_deed l0 l1).2.2.2
  have w4 : ∀ X : PH, gv X c 4 = X c 4 := fun X => by rw [hc]; exact dg4 l0 l1
  have w5 : ∀ X : PH, gv X c 5 = X c 5 := fun X => by rw [hc]; exact dg5 l0 l1
  have z4 : zrt c.toNat 4 = none := by rw [hc]; exact (dz l0 l1).1
  have z5 : zrt c.toNat 5 = none := by rw [hc]; exact (dz l0 l1).2
  have n1 : ¬ c = 1 := by omega
  have n2 : ¬ (1 : Int) = c := by omega
  have rr := rd_deed hW l0 l1
  rw [← hc] at rr
  
  refine ⟨_, _, _, _, _, _, vm_X2_undo, by simp [pcat], ?_⟩
  refine tr_lab (D := 6) (t := 0) vb_X2_undo_0 _ ve_X2_undo_0 ?_
  simp (maxDischargeDepth := 12) [vb_X2_undo_0, wB, wI, k1, kI, kR, kL, k2, pget, parg, ppush, pcat, zw_lit, zw_m1, zw_m2, zw_m3, zNC_eq, zrow, pup_app, pget_pss, pget_psx, nlg_some, nlg_none, gv_1_1, gv_1_13, pe, tg_0_3, tg_0_4, tg_0_5, tg_1_1, tg_1_10, tg_1_11, tg_1_12, tg_1_13, tg_1_7, tg_1_8, tg_1_9, tg_2_0, tg_2_1, tg_2_2, tg_2_3, tg_2_5, zfit, zisI, sh_590, sh_1, c0, c1, s1, s2, w0, w1, w2, w3, w4, w5, z4, z5, n1, n2, hk, ptl, ptsw]
  repeat' (with_reducible (first | (refine And.intro ?_ ?_) | intro _))
  all_goals try (refine tr_lab (D := 6) (t := 127) vb_X2_undo_127 _ ve_X2_undo_127 ?_; simp (maxDischargeDepth := 12) [vb_X2_undo_127, wB, wI, k1, kI, kR, kL, k2, pget, parg, ppush, pcat, zw_lit, zw_m1, zw_m2, zw_m3, zNC_eq, zrow, pup_app, pget_pss, pget_psx, nlg_some, nlg_none, gv_1_1, gv_1_13, pe, tg_0_3, tg_0_4, tg_0_5, tg_1_1, tg_1_10, tg_1_11, tg_1_12, tg_1_13, tg_1_7, tg_1_8, tg_1_9, tg_2_0, tg_2_1, tg_2_2, tg_2_3, tg_2_5, zfit, zisI, sh_590, sh_1, c0, c1, s1, s2, w0, w1, w2, w3, w4, w5, z4, z5, n1, n2, hk, ptl, ptsw])
  all_goals repeat' (with_reducible (first | (refine And.intro ?_ ?_) | intro _))
  all_goals try (refine tr_lab (D := 6) (t := 243) vb_X2_undo_243 _ ve_X2_undo_243 ?_; simp (maxDischargeDepth := 12) [vb_X2_undo_243, wB, wI, k1, kI, kR, kL, k2, pget, parg, ppush, pcat, zw_lit, zw_m1, zw_m2, zw_m3, zNC_eq, zrow, pup_app, pget_pss, pget_psx, nlg_some, nlg_none, gv_1_1, gv_1_13, pe, tg_0_3, tg_0_4, tg_0_5, tg_1_1, tg_1_10, tg_1_11, tg_1_12, tg_1_13, tg_1_7, tg_1_8, tg_1_9, tg_2_0, tg_2_1, tg_2_2, tg_2_3, tg_2_5, zfit, zisI, sh_590, sh_1, c0, c1, s1, s2, w0, w1, w2, w3, w4, w5, z4, z5, n1, n2, hk, ptl, ptsw])
  all_goals repeat' (with_reducible (first | (refine And.intro ?_ ?_) | intro _))
  all_goals (first | omega | assumption | ((repeat (first | assumption | exact frm_refl _ _ | (refine wf_1_7 ?_ (by omega) (by omega)) | (refine ff_1_7 ?_ rfl) | (refine wf_1_8 ?_ (by omega) (by omega)) | (refine ff_1_8 ?_ rfl) | (refine wf_1_9 ?_ (by omega) (by omega)) | (refine ff_1_9 ?_ rfl) | (refine wf_1_10 ?_ (by omega) (by omega)) | (refine ff_1_10 ?_ rfl) | (refine wf_1_11 ?_ (by omega) (by omega)) | (refine ff_1_11 ?_ rfl) | (refine wf_1_12 ?_ (by omega) (by omega)) | (refine ff_1_12 ?_ rfl) | (refine wf_1_13 ?_ (by omega) (by omega)) | (refine ff_1_13 ?_ rfl) | (refine IM_pup ?_ (by omega)))); done) | (exact SME_pup (by omega) (by omega) (by omega) (by omega) (by omega)) | (exact SME_trans (SME_pup (by omega) (by omega) (by omega) (by omega) (by omega)) (SME_pup (by omega) (by omega) (by omega) (by omega) (by omega))) | decide | skip)

set_option maxRecDepth 20000 in
set_option maxHeartbeats 4000000 in
theorem ca_undo_5 {G : zG} {us : Nat} {g : Nat → Nat → Int} (l : Int) (c : Int) (H : PH) (hc : c = 469 + 6 * l) (hW : WT 2 g H) (hM : IM H) (l0 : 0 ≤ l) (l1 : l ≤ 19) (hk : H c 0 = 5) (ha : 0 ≤ H c 1 ∧ H c 1 ≤ 24) : Ca G us 7 31 [(2, c), (2, 1)] H (fun r H' => r = none ∧ WT 2 g H' ∧ frm [0, 1, 2, 3, 5, 6, 9, 11, 34, 35, 36, 37, 38, 39, 40, 41, 42, 43, 44, 45, 46, 47, 48, 49, 50, 51, 53, 54, 55, 56, 57, 58, 59, 60, 61, 62, 63, 64, 65, 66, 67, 68, 69, 70, 71, 72, 73, 74, 75, 76, 77, 4, 10, 8] H H' ∧ IM H' ∧ SME H H') := by
  have c0 : 0 ≤ c := by omega
  have c1 : c < 622 := by omega
  have s1 : (zSh c.toNat).1 = 2 := by rw [hc]; exact (sh_deed l0 l1).1
  have s2 : (zSh c.toNat).2.1 = 6 := by rw [hc]; exact (sh_deed l0 l1).2.1
  have w0 : ∀ X : PH, gv X c 0 = X c 0 := fun X => by rw [hc]; exact (gv_deed l0 l1).1
  have w1 : ∀ X : PH, gv X c 1 = X c 1 := fun X => by rw [hc]; exact (gv_deed l0 l1).2.1
  have w2 : ∀ X : PH, gv X c 2 = X c 2 := fun X => by rw [hc]; exact (gv_deed l0 l1).2.2.1
  have w3 : ∀ X : PH, gv X c 3 = X c 3 := fun X => by rw [hc]; exact (gv_deed l0 l1).2.2.2
  have w4 : ∀ X : PH, gv X c 4 = X c 4 := fun X => by rw [hc]; exact dg4 l0 l1
  have w5 : ∀ X : PH, gv X c 5 = X c 5 := fun X => by rw [hc]; exact dg5 l0 l1
  have z4 : zrt c.toNat 4 = none := by rw [hc]; exact (dz l0 l1).1
  have z5 : zrt c.toNat 5 = none := by rw [hc]; exact (dz l0 l1).2
  have n1 : ¬ c = 1 := by omega
  have n2 : ¬ (1 : Int) = c := by omega
  have rr := rd_deed hW l0 l1
  rw [← hc] at rr
  
  refine ⟨_, _, _, _, _, _, vm_X2_undo, by simp [pcat], ?_⟩
  refine tr_lab (D := 6) (t := 0) vb_X2_undo_0 _ ve_X2_undo_0 ?_
  simp (maxDischargeDepth := 12) [vb_X2_undo_0, wB, wI, k1, kI, kR, kL, k2, pget, parg, ppush, pcat, zw_lit, zw_m1, zw_m2, zw_m3, zNC_eq, zrow, pup_app, pget_pss, pget_psx, nlg_some, nlg_none, gv_1_1, gv_1_13, pe, tg_0_3, tg_0_4, tg_0_5, tg_1_1, tg_1_10, tg_1_11, tg_1_12, tg_1_13, tg_1_7, tg_1_8, tg_1_9, tg_2_0, tg_2_1, tg_2_2, tg_2_3, tg_2_5, zfit, zisI, sh_590, sh_1, c0, c1, s1, s2, w0, w1, w2, w3, w4, w5, z4, z5, n1, n2, hk, ptl, ptsw]
  repeat' (with_reducible (first | (refine And.intro ?_ ?_) | intro _))
  all_goals try (refine tr_lab (D := 6) (t := 138) vb_X2_undo_138 _ ve_X2_undo_138 ?_; simp (maxDischargeDepth := 12) [vb_X2_undo_138, wB, wI, k1, kI, kR, kL, k2, pget, parg, ppush, pcat, zw_lit, zw_m1, zw_m2, zw_m3, zNC_eq, zrow, pup_app, pget_pss, pget_psx, nlg_some, nlg_none, gv_1_1, gv_1_13, pe, tg_0_3, tg_0_4, tg_0_5, tg_1_1, tg_1_10, tg_1_11, tg_1_12, tg_1_13, tg_1_7, tg_1_8, tg_1_9, tg_2_0, tg_2_1, tg_2_2, tg_2_3, tg_2_5, zfit, zisI, sh_590, sh_1, c0, c1, s1, s2, w0, w1, w2, w3, w4, w5, z4, z5, n1, n2, hk, ptl, ptsw])
  all_goals repeat' (with_reducible (first | (refine And.intro ?_ ?_) | intro _))
  all_goals try (refine tr_lab (D := 6) (t := 243) vb_X2_undo_243 _ ve_X2_undo_243 ?_; simp (maxDischargeDepth := 12) [vb_X2_undo_243, wB, wI, k1, kI, kR, kL, k2, pget, parg, ppush, pcat, zw_lit, zw_m1, zw_m2, zw_m3, zNC_eq, zrow, pup_app, pget_pss, pget_psx, nlg_some, nlg_none, gv_1_1, gv_1_13, pe, tg_0_3, tg_0_4, tg_0_5, tg_1_1, tg_1_10, tg_1_11, tg_1_12, tg_1_13, tg_1_7, tg_1_8, tg_1_9, tg_2_0, tg_2_1, tg_2_2, tg_2_3, tg_2_5, zfit, zisI, sh_590, sh_1, c0, c1, s1, s2, w0, w1, w2, w3, w4, w5, z4, z5, n1, n2, hk, ptl, ptsw])
  all_goals repeat' (with_reducible (first | (refine And.intro ?_ ?_) | intro _))
  all_goals (first | omega | assumption | ((repeat (first | assumption | exact frm_refl _ _ | (refine wf_1_7 ?_ (by omega) (by omega)) | (refine ff_1_7 ?_ rfl) | (refine wf_1_8 ?_ (by omega) (by omega)) | (refine ff_1_8 ?_ rfl) | (refine wf_1_9 ?_ (by omega) (by omega)) | (refine ff_1_9 ?_ rfl) | (refine wf_1_10 ?_ (by omega) (by omega)) | (refine ff_1_10 ?_ rfl) | (refine wf_1_11 ?_ (by omega) (by omega)) | (refine ff_1_11 ?_ rfl) | (refine wf_1_12 ?_ (by omega) (by omega)) | (refine ff_1_12 ?_ rfl) | (refine wf_1_13 ?_ (by omega) (by omega)) | (refine ff_1_13 ?_ rfl) | (refine IM_pup ?_ (by omega)))); done) | (exact SME_pup (by omega) (by omega) (by omega) (by omega) (by omega)) | (exact SME_trans (SME_pup (by omega) (by omega) (by omega) (by omega) (by omega)) (SME_pup (by omega) (by omega) (by omega) (by omega) (by omega))) | decide | skip)

set_option maxRecDepth 20000 in
set_option maxHeartbeats 4000000 in
theorem ca_undo_6 {G : zG} {us : Nat} {g : Nat → Nat → Int} (l : Int) (c : Int) (H : PH) (hc : c = 469 + 6 * l) (hW : WT 2 g H) (hM : IM H) (l0 : 0 ≤ l) (l1 : l ≤ 19) (hk : H c 0 = 6)  : Ca G us 7 31 [(2, c), (2, 1)] H (fun r H' => r = none ∧ WT 2 g H' ∧ frm [0, 1, 2, 3, 5, 6, 9, 11, 34, 35, 36, 37, 38, 39, 40, 41, 42, 43, 44, 45, 46, 47, 48, 49, 50, 51, 53, 54, 55, 56, 57, 58, 59, 60, 61, 62, 63, 64, 65, 66, 67, 68, 69, 70, 71, 72, 73, 74, 75, 76, 77, 4, 10, 8] H H' ∧ IM H' ∧ SME H H') := by
  have c0 : 0 ≤ c := by omega
  have c1 : c < 622 := by omega
  have s1 : (zSh c.toNat).1 = 2 := by rw [hc]; exact (sh_deed l0 l1).1
  have s2 : (zSh c.toNat).2.1 = 6 := by rw [hc]; exact (sh_deed l0 l1).2.1
  have w0 : ∀ X : PH, gv X c 0 = X c 0 := fun X => by rw [hc]; exact (gv_deed l0 l1).1
  have w1 : ∀ X : PH, gv X c 1 = X c 1 := fun X => by rw [hc]; exact (gv_deed l0 l1).2.1
  have w2 : ∀ X : PH, gv X c 2 = X c 2 := fun X => by rw [hc]; exact (gv_deed l0 l1).2.2.1
  have w3 : ∀ X : PH, gv X c 3 = X c 3 := fun X => by rw [hc]; exact (gv_deed l0 l1).2.2.2
  have w4 : ∀ X : PH, gv X c 4 = X c 4 := fun X => by rw [hc]; exact dg4 l0 l1
  have w5 : ∀ X : PH, gv X c 5 = X c 5 := fun X => by rw [hc]; exact dg5 l0 l1
  have z4 : zrt c.toNat 4 = none := by rw [hc]; exact (dz l0 l1).1
  have z5 : zrt c.toNat 5 = none := by rw [hc]; exact (dz l0 l1).2
  have n1 : ¬ c = 1 := by omega
  have n2 : ¬ (1 : Int) = c := by omega
  have rr := rd_deed hW l0 l1
  rw [← hc] at rr
  
  refine ⟨_, _, _, _, _, _, vm_X2_undo, by simp [pcat], ?_⟩
  refine tr_lab (D := 6) (t := 0) vb_X2_undo_0 _ ve_X2_undo_0 ?_
  simp (maxDischargeDepth := 12) [vb_X2_undo_0, wB, wI, k1, kI, kR, kL, k2, pget, parg, ppush, pcat, zw_lit, zw_m1, zw_m2, zw_m3, zNC_eq, zrow, pup_app, pget_pss, pget_psx, nlg_some, nlg_none, gv_1_1, gv_1_13, pe, tg_0_3, tg_0_4, tg_0_5, tg_1_1, tg_1_10, tg_1_11, tg_1_12, tg_1_13, tg_1_7, tg_1_8, tg_1_9, tg_2_0, tg_2_1, tg_2_2, tg_2_3, tg_2_5, zfit, zisI, sh_590, sh_1, c0, c1, s1, s2, w0, w1, w2, w3, w4, w5, z4, z5, n1, n2, hk, ptl, ptsw]
  repeat' (with_reducible (first | (refine And.intro ?_ ?_) | intro _))
  all_goals try (refine tr_lab (D := 6) (t := 149) vb_X2_undo_149 _ ve_X2_undo_149 ?_; simp (maxDischargeDepth := 12) [vb_X2_undo_149, wB, wI, k1, kI, kR, kL, k2, pget, parg, ppush, pcat, zw_lit, zw_m1, zw_m2, zw_m3, zNC_eq, zrow, pup_app, pget_pss, pget_psx, nlg_some, nlg_none, gv_1_1, gv_1_13, pe, tg_0_3, tg_0_4, tg_0_5, tg_1_1, tg_1_10, tg_1_11, tg_1_12, tg_1_13, tg_1_7, tg_1_8, tg_1_9, tg_2_0, tg_2_1, tg_2_2, tg_2_3, tg_2_5, zfit, zisI, sh_590, sh_1, c0, c1, s1, s2, w0, w1, w2, w3, w4, w5, z4, z5, n1, n2, hk, ptl, ptsw])
  all_goals repeat' (with_reducible (first | (refine And.intro ?_ ?_) | intro _))
  all_goals try (refine tr_lab (D := 6) (t := 243) vb_X2_undo_243 _ ve_X2_undo_243 ?_; simp (maxDischargeDepth := 12) [vb_X2_undo_243, wB, wI, k1, kI, kR, kL, k2, pget, parg, ppush, pcat, zw_lit, zw_m1, zw_m2, zw_m3, zNC_eq, zrow, pup_app, pget_pss, pget_psx, nlg_some, nlg_none, gv_1_1, gv_1_13, pe, tg_0_3, tg_0_4, tg_0_5, tg_1_1, tg_1_10, tg_1_11, tg_1_12, tg_1_13, tg_1_7, tg_1_8, tg_1_9, tg_2_0, tg_2_1, tg_2_2, tg_2_3, tg_2_5, zfit, zisI, sh_590, sh_1, c0, c1, s1, s2, w0, w1, w2, w3, w4, w5, z4, z5, n1, n2, hk, ptl, ptsw])
  all_goals repeat' (with_reducible (first | (refine And.intro ?_ ?_) | intro _))
  all_goals (first | omega | assumption | ((repeat (first | assumption | exact frm_refl _ _ | (refine wf_1_7 ?_ (by omega) (by omega)) | (refine ff_1_7 ?_ rfl) | (refine wf_1_8 ?_ (by omega) (by omega)) | (refine ff_1_8 ?_ rfl) | (refine wf_1_9 ?_ (by omega) (by omega)) | (refine ff_1_9 ?_ rfl) | (refine wf_1_10 ?_ (by omega) (by omega)) | (refine ff_1_10 ?_ rfl) | (refine wf_1_11 ?_ (by omega) (by omega)) | (refine ff_1_11 ?_ rfl) | (refine wf_1_12 ?_ (by omega) (by omega)) | (refine ff_1_12 ?_ rfl) | (refine wf_1_13 ?_ (by omega) (by omega)) | (refine ff_1_13 ?_ rfl) | (refine IM_pup ?_ (by omega)))); done) | (exact SME_pup (by omega) (by omega) (by omega) (by omega) (by omega)) | (exact SME_trans (SME_pup (by omega) (by omega) (by omega) (by omega) (by omega)) (SME_pup (by omega) (by omega) (by omega) (by omega) (by omega))) | decide | skip)

set_option maxRecDepth 20000 in
set_option maxHeartbeats 4000000 in
theorem ca_undo_8 {G : zG} {us : Nat} {g : Nat → Nat → Int} (l : Int) (c : Int) (H : PH) (hc : c = 469 + 6 * l) (hW : WT 2 g H) (hM : IM H) (l0 : 0 ≤ l) (l1 : l ≤ 19) (hk : H c 0 = 8)  : Ca G us 7 31 [(2, c), (2, 1)] H (fun r H' => r = none ∧ WT 2 g H' ∧ frm [0, 1, 2, 3, 5, 6, 9, 11, 34, 35, 36, 37, 38, 39, 40, 41, 42, 43, 44, 45, 46, 47, 48, 49, 50, 51, 53, 54, 55, 56, 57, 58, 59, 60, 61, 62, 63, 64, 65, 66, 67, 68, 69, 70, 71, 72, 73, 74, 75, 76, 77, 4, 10, 8] H H' ∧ IM H' ∧ SME H H') := by
  have c0 : 0 ≤ c := by omega
  have c1 : c < 622 := by omega
  have s1 : (zSh c.toNat).1 = 2 := by rw [hc]; exact (sh_deed l0 l1).1
  have s2 : (zSh c.toNat).2.1 = 6 := by rw [hc]; exact (sh_deed l0 l1).2.1
  have w0 : ∀ X : PH, gv X c 0 = X c 0 := fun X => by rw [hc]; exact (gv_deed l0 l1).1
  have w1 : ∀ X : PH, gv X c 1 = X c 1 := fun X => by rw [hc]; exact (gv_deed l0 l1).2.1
  have w2 : ∀ X : PH, gv X c 2 = X c 2 := fun X => by rw [hc]; exact (gv_deed l0 l1).2.2.1
  have w3 : ∀ X : PH, gv X c 3 = X c 3 := fun X => by rw [hc]; exact (gv_deed l0 l1).2.2.2
  have w4 : ∀ X : PH, gv X c 4 = X c 4 := fun X => by rw [hc]; exact dg4 l0 l1
  have w5 : ∀ X : PH, gv X c 5 = X c 5 := fun X => by rw [hc]; exact dg5 l0 l1
  have z4 : zrt c.toNat 4 = none := by rw [hc]; exact (dz l0 l1).1
  have z5 : zrt c.toNat 5 = none := by rw [hc]; exact (dz l0 l1).2
  have n1 : ¬ c = 1 := by omega
  have n2 : ¬ (1 : Int) = c := by omega
  have rr := rd_deed hW l0 l1
  rw [← hc] at rr
  
  refine ⟨_, _, _, _, _, _, vm_X2_undo, by simp [pcat], ?_⟩
  refine tr_lab (D := 6) (t := 0) vb_X2_undo_0 _ ve_X2_undo_0 ?_
  simp (maxDischargeDepth := 12) [vb_X2_undo_0, wB, wI, k1, kI, kR, kL, k2, pget, parg, ppush, pcat, zw_lit, zw_m1, zw_m2, zw_m3, zNC_eq, zrow, pup_app, pget_pss, pget_psx, nlg_some, nlg_none, gv_1_1, gv_1_13, pe, tg_0_3, tg_0_4, tg_0_5, tg_1_1, tg_1_10, tg_1_11, tg_1_12, tg_1_13, tg_1_7, tg_1_8, tg_1_9, tg_2_0, tg_2_1, tg_2_2, tg_2_3, tg_2_5, zfit, zisI, sh_590, sh_1, c0, c1, s1, s2, w0, w1, w2, w3, w4, w5, z4, z5, n1, n2, hk, ptl, ptsw]
  repeat' (with_reducible (first | (refine And.intro ?_ ?_) | intro _))
  all_goals try (refine tr_lab (D := 6) (t := 179) vb_X2_undo_179 _ ve_X2_undo_179 ?_; simp (maxDischargeDepth := 12) [vb_X2_undo_179, wB, wI, k1, kI, kR, kL, k2, pget, parg, ppush, pcat, zw_lit, zw_m1, zw_m2, zw_m3, zNC_eq, zrow, pup_app, pget_pss, pget_psx, nlg_some, nlg_none, gv_1_1, gv_1_13, pe, tg_0_3, tg_0_4, tg_0_5, tg_1_1, tg_1_10, tg_1_11, tg_1_12, tg_1_13, tg_1_7, tg_1_8, tg_1_9, tg_2_0, tg_2_1, tg_2_2, tg_2_3, tg_2_5, zfit, zisI, sh_590, sh_1, c0, c1, s1, s2, w0, w1, w2, w3, w4, w5, z4, z5, n1, n2, hk, ptl, ptsw])
  all_goals repeat' (with_reducible (first | (refine And.intro ?_ ?_) | intro _))
  all_goals try (refine tr_lab (D := 6) (t := 243) vb_X2_undo_243 _ ve_X2_undo_243 ?_; simp (maxDischargeDepth := 12) [vb_X2_undo_243, wB, wI, k1, kI, kR, kL, k2, pget, parg, ppush, pcat, zw_lit, zw_m1, zw_m2, zw_m3, zNC_eq, zrow, pup_app, pget_pss, pget_psx, nlg_some, nlg_none, gv_1_1, gv_1_13, pe, tg_0_3, tg_0_4, tg_0_5, tg_1_1, tg_1_10, tg_1_11, tg_1_12, tg_1_13, tg_1_7, tg_1_8, tg_1_9, tg_2_0, tg_2_1, tg_2_2, tg_2_3, tg_2_5, zfit, zisI, sh_590, sh_1, c0, c1, s1, s2, w0, w1, w2, w3, w4, w5, z4, z5, n1, n2, hk, ptl, ptsw])
  all_goals repeat' (with_reducible (first | (refine And.intro ?_ ?_) | intro _))
  all_goals (first | omega | assumption | ((repeat (first | assumption | exact frm_refl _ _ | (refine wf_1_7 ?_ (by omega) (by omega)) | (refine ff_1_7 ?_ rfl) | (refine wf_1_8 ?_ (by omega) (by omega)) | (refine ff_1_8 ?_ rfl) | (refine wf_1_9 ?_ (by omega) (by omega)) | (refine ff_1_9 ?_ rfl) | (refine wf_1_10 ?_ (by omega) (by omega)) | (refine ff_1_10 ?_ rfl) | (refine wf_1_11 ?_ (by omega) (by omega)) | (refine ff_1_11 ?_ rfl) | (refine wf_1_12 ?_ (by omega) (by omega)) | (refine ff_1_12 ?_ rfl) | (refine wf_1_13 ?_ (by omega) (by omega)) | (refine ff_1_13 ?_ rfl) | (refine IM_pup ?_ (by omega)))); done) | (exact SME_pup (by omega) (by omega) (by omega) (by omega) (by omega)) | (exact SME_trans (SME_pup (by omega) (by omega) (by omega) (by omega) (by omega)) (SME_pup (by omega) (by omega) (by omega) (by omega) (by omega))) | decide | skip)

set_option maxRecDepth 20000 in
set_option maxHeartbeats 4000000 in
theorem ca_undo_9 {G : zG} {us : Nat} {g : Nat → Nat → Int} (l : Int) (c : Int) (H : PH) (hc : c = 469 + 6 * l) (hW : WT 2 g H) (hM : IM H) (l0 : 0 ≤ l) (l1 : l ≤ 19) (hk : H c 0 = 9)  : Ca G us 7 31 [(2, c), (2, 1)] H (fun r H' => r = none ∧ WT 2 g H' ∧ frm [0, 1, 2, 3, 5, 6, 9, 11, 34, 35, 36, 37, 38, 39, 40, 41, 42, 43, 44, 45, 46, 47, 48, 49, 50, 51, 53, 54, 55, 56, 57, 58, 59, 60, 61, 62, 63, 64, 65, 66, 67, 68, 69, 70, 71, 72, 73, 74, 75, 76, 77, 4, 10, 8] H H' ∧ IM H' ∧ SME H H') := by
  have c0 : 0 ≤ c := by omega
  have c1 : c < 622 := by omega
  have s1 : (zSh c.toNat).1 = 2 := by rw [hc]; exact (sh_deed l0 l1).1
  have s2 : (zSh c.toNat).2.1 = 6 := by rw [hc]; exact (sh_deed l0 l1).2.1
  have w0 : ∀ X : PH, gv X c 0 = X c 0 := fun X => by rw [hc]; exact (gv_deed l0 l1).1
  have w1 : ∀ X : PH, gv X c 1 = X c 1 := fun X => by rw [hc]; exact (gv_deed l0 l1).2.1
  have w2 : ∀ X : PH, gv X c 2 = X c 2 := fun X => by rw [hc]; exact (gv_deed l0 l1).2.2.1
  have w3 : ∀ X : PH, gv X c 3 = X c 3 := fun X => by rw [hc]; exact (gv_deed l0 l1).2.2.2
  have w4 : ∀ X : PH, gv X c 4 = X c 4 := fun X => by rw [hc]; exact dg4 l0 l1
  have w5 : ∀ X : PH, gv X c 5 = X c 5 := fun X => by rw [hc]; exact dg5 l0 l1
  have z4 : zrt c.toNat 4 = none := by rw [hc]; exact (dz l0 l1).1
  have z5 : zrt c.toNat 5 = none := by rw [hc]; exact (dz l0 l1).2
  have n1 : ¬ c = 1 := by omega
  have n2 : ¬ (1 : Int) = c := by omega
  have rr := rd_deed hW l0 l1
  rw [← hc] at rr
  
  refine ⟨_, _, _, _, _, _, vm_X2_undo, by simp [pcat], ?_⟩
  refine tr_lab (D := 6) (t := 0) vb_X2_undo_0 _ ve_X2_undo_0 ?_
  simp (maxDischargeDepth := 12) [vb_X2_undo_0, wB, wI, k1, kI, kR, kL, k2, pget, parg, ppush, pcat, zw_lit, zw_m1, zw_m2, zw_m3, zNC_eq, zrow, pup_app, pget_pss, pget_psx, nlg_some, nlg_none, gv_1_1, gv_1_13, pe, tg_0_3, tg_0_4, tg_0_5, tg_1_1, tg_1_10, tg_1_11, tg_1_12, tg_1_13, tg_1_7, tg_1_8, tg_1_9, tg_2_0, tg_2_1, tg_2_2, tg_2_3, tg_2_5, zfit, zisI, sh_590, sh_1, c0, c1, s1, s2, w0, w1, w2, w3, w4, w5, z4, z5, n1, n2, hk, ptl, ptsw]
  repeat' (with_reducible (first | (refine And.intro ?_ ?_) | intro _))
  all_goals try (refine tr_lab (D := 6) (t := 190) vb_X2_undo_190 _ ve_X2_undo_190 ?_; simp (maxDischargeDepth := 12) [vb_X2_undo_190, wB, wI, k1, kI, kR, kL, k2, pget, parg, ppush, pcat, zw_lit, zw_m1, zw_m2, zw_m3, zNC_eq, zrow, pup_app, pget_pss, pget_psx, nlg_some, nlg_none, gv_1_1, gv_1_13, pe, tg_0_3, tg_0_4, tg_0_5, tg_1_1, tg_1_10, tg_1_11, tg_1_12, tg_1_13, tg_1_7, tg_1_8, tg_1_9, tg_2_0, tg_2_1, tg_2_2, tg_2_3, tg_2_5, zfit, zisI, sh_590, sh_1, c0, c1, s1, s2, w0, w1, w2, w3, w4, w5, z4, z5, n1, n2, hk, ptl, ptsw])
  all_goals repeat' (with_reducible (first | (refine And.intro ?_ ?_) | intro _))
  all_goals try (refine tr_lab (D := 6) (t := 243) vb_X2_undo_243 _ ve_X2_undo_243 ?_; simp (maxDischargeDepth := 12) [vb_X2_undo_243, wB, wI, k1, kI, kR, kL, k2, pget, parg, ppush, pcat, zw_lit, zw_m1, zw_m2, zw_m3, zNC_eq, zrow, pup_app, pget_pss, pget_psx, nlg_some, nlg_none, gv_1_1, gv_1_13, pe, tg_0_3, tg_0_4, tg_0_5, tg_1_1, tg_1_10, tg_1_11, tg_1_12, tg_1_13, tg_1_7, tg_1_8, tg_1_9, tg_2_0, tg_2_1, tg_2_2, tg_2_3, tg_2_5, zfit, zisI, sh_590, sh_1, c0, c1, s1, s2, w0, w1, w2, w3, w4, w5, z4, z5, n1, n2, hk, ptl, ptsw])
  all_goals repeat' (with_reducible (first | (refine And.intro ?_ ?_) | intro _))
  all_goals (first | omega | assumption | ((repeat (first | assumption | exact frm_refl _ _ | (refine wf_1_7 ?_ (by omega) (by omega)) | (refine ff_1_7 ?_ rfl) | (refine wf_1_8 ?_ (by omega) (by omega)) | (refine ff_1_8 ?_ rfl) | (refine wf_1_9 ?_ (by omega) (by omega)) | (refine ff_1_9 ?_ rfl) | (refine wf_1_10 ?_ (by omega) (by omega)) | (refine ff_1_10 ?_ rfl) | (refine wf_1_11 ?_ (by omega) (by omega)) | (refine ff_1_11 ?_ rfl) | (refine wf_1_12 ?_ (by omega) (by omega)) | (refine ff_1_12 ?_ rfl) | (refine wf_1_13 ?_ (by omega) (by omega)) | (refine ff_1_13 ?_ rfl) | (refine IM_pup ?_ (by omega)))); done) | (exact SME_pup (by omega) (by omega) (by omega) (by omega) (by omega)) | (exact SME_trans (SME_pup (by omega) (by omega) (by omega) (by omega) (by omega)) (SME_pup (by omega) (by omega) (by omega) (by omega) (by omega))) | decide | skip)

