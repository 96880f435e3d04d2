theorem frz_PE {g : Nat → Nat → Int} {H H' : PH} {md : List Nat} (hW : WT 2 g H) (hM : IM H) (q : WT 0 (gH H) H') (hf : frm md H H') (hs : md.all (covm [0, 1, 2, 3, 5, 6, 9, 11, 34, 35, 36, 37, 38, 39, 40, 41, 42, 43, 44, 45, 46, 47, 48, 49, 50, 51, 53, 54, 55, 56, 57, 58, 59, 60, 61, 62, 63, 64, 65, 66, 67, 68, 69, 70, 71, 72, 73, 74, 75, 76, 77, 4, 10, 8]) = true) : WT 2 g H' ∧ (∀ X : PH, frm [0, 1, 2, 3, 5, 6, 9, 11, 34, 35, 36, 37, 38, 39, 40, 41, 42, 43, 44, 45, 46, 47, 48, 49, 50, 51, 53, 54, 55, 56, 57, 58, 59, 60, 61, 62, 63, 64, 65, 66, 67, 68, 69, 70, 71, 72, 73, 74, 75, 76, 77, 4, 10, 8] X H → frm [0, 1, 2, 3, 5, 6, 9, 11, 34, 35, 36, 37, 38, 39, 40, 41, 42, 43, 44, 45, 46, 47, 48, 49, 50, 51, 53, 54, 55, 56, 57, 58, 59, 60, 61, 62, 63, 64, 65, 66, 67, 68, 69, 70, 71, 72, 73, 74, 75, 76, 77, 4, 10, 8] X H') ∧ IM H' ∧ SC H H' ∧ H' 1 2 = H 1 2 ∧ (∀ x, 0 ≤ x → x ≤ 11 → rem H' x = rem H x) ∧ H' 213 1 = H 213 1 := by
  obtain ⟨a, b, c, d⟩ := frz_SC q
  exact ⟨WT_two q, fun X hX => frm_trans hX (frm_sub hs hf), IM_same hW (SM_frz q).1 hM, a, b, c, d⟩
theorem rok_i {lo hi : Int} {s : Nat} {r : Option pv} (h : rok (some (0, lo, hi, s)) r) : ∃ x, r = some (0, x) := by
  obtain ⟨x, hx, _⟩ := rok_int h
  exact ⟨x, hx⟩
theorem rok_n {r : Option pv} (h : rok none r) : r = none := by
  match r, h with
  | none, _ => rfl

theorem GT_213 {H0 H : PH} {i v : Int} (h : GT H0 H) (hb : H0 1 2 ≤ 12) : GT H0 (pup H 213 i v) := by
  have r : ∀ c : Int, c ≠ 213 → pup H 213 i v c = H c := fun c hc => pup_row hc
  refine ⟨⟨by rw [r 0 (by decide)]; exact h.1.1, by rw [r 0 (by decide)]; exact h.1.2.1, fun j j0 j1 => ?_⟩, by rw [r 1 (by decide)]; exact h.2.1, fun x x0 x1 => ?_⟩
  · rw [← h.1.2.2 j j0 j1]
    unfold ent
    rw [r _ (by omega)]
  · rw [← h.2.2 x x0 x1]
    unfold rem
    rw [r _ (by omega)]

theorem ca_tkC {G : zG} {us : Nat} {g : Nat → Nat → Int} (H : PH) (hW : WT 2 g H) (hM : IM H) (hat : H 213 2 ≤ 599) : Ca G us 4 9 [(2, 1), (2, 213)] H (fun r H' => (∃ x, r = some (0, x)) ∧ WT 2 g H' ∧ (∀ X : PH, frm [0, 1, 2, 3, 5, 6, 9, 11, 34, 35, 36, 37, 38, 39, 40, 41, 42, 43, 44, 45, 46, 47, 48, 49, 50, 51, 53, 54, 55, 56, 57, 58, 59, 60, 61, 62, 63, 64, 65, 66, 67, 68, 69, 70, 71, 72, 73, 74, 75, 76, 77, 4, 10, 8] X H → frm [0, 1, 2, 3, 5, 6, 9, 11, 34, 35, 36, 37, 38, 39, 40, 41, 42, 43, 44, 45, 46, 47, 48, 49, 50, 51, 53, 54, 55, 56, 57, 58, 59, 60, 61, 62, 63, 64, 65, 66, 67, 68, 69, 70, 71, 72, 73, 74, 75, 76, 77, 4, 10, 8] X H') ∧ IM H' ∧ SC H H' ∧ H' 1 2 = H 1 2 ∧ (∀ x, 0 ≤ x → x ≤ 11 → rem H' x = rem H x) ∧ H' 213 1 = H 213 1) :=
  Ca_mono (Nat.le_refl _) (fun r H' q => ⟨rok_i q.2.1, frz_PE hW hM q.1 q.2.2.2.1 rfl⟩) (ct_X1_takeCouple G us (gH H) H _ (GOK_gH hM) (WT_self hW) ⟨sref 1 (by decide) rfl, sref 213 (by decide) rfl, trivial⟩ (fun f hf => by rcases List.mem_cons.mp hf with rfl | hf; exact fokf rfl (rf_213_2 hW).1 hat; cases hf))

theorem ca_tkL {G : zG} {us : Nat} {g : Nat → Nat → Int} (H : PH) (hW : WT 2 g H) (hM : IM H) (hat : H 213 2 ≤ 599) : Ca G us 4 10 [(2, 1), (2, 213)] H (fun r H' => (∃ x, r = some (0, x)) ∧ WT 2 g H' ∧ (∀ X : PH, frm [0, 1, 2, 3, 5, 6, 9, 11, 34, 35, 36, 37, 38, 39, 40, 41, 42, 43, 44, 45, 46, 47, 48, 49, 50, 51, 53, 54, 55, 56, 57, 58, 59, 60, 61, 62, 63, 64, 65, 66, 67, 68, 69, 70, 71, 72, 73, 74, 75, 76, 77, 4, 10, 8] X H → frm [0, 1, 2, 3, 5, 6, 9, 11, 34, 35, 36, 37, 38, 39, 40, 41, 42, 43, 44, 45, 46, 47, 48, 49, 50, 51, 53, 54, 55, 56, 57, 58, 59, 60, 61, 62, 63, 64, 65, 66, 67, 68, 69, 70, 71, 72, 73, 74, 75, 76, 77, 4, 10, 8] X H') ∧ IM H' ∧ SC H H' ∧ H' 1 2 = H 1 2 ∧ (∀ x, 0 ≤ x → x ≤ 11 → rem H' x = rem H x) ∧ H' 213 1 = H 213 1) :=
  Ca_mono (Nat.le_refl _) (fun r H' q => ⟨rok_i q.2.1, frz_PE hW hM q.1 q.2.2.2.1 rfl⟩) (ct_X1_takeLine G us (gH H) H _ (GOK_gH hM) (WT_self hW) ⟨sref 1 (by decide) rfl, sref 213 (by decide) rfl, trivial⟩ (fun f hf => by rcases List.mem_cons.mp hf with rfl | hf; exact fokf rfl (rf_213_2 hW).1 hat; cases hf))

theorem ca_rew {G : zG} {us : Nat} {g : Nat → Nat → Int} (H : PH) (hW : WT 2 g H) (hM : IM H)  : Ca G us 1 94 [(2, 213)] H (fun r H' => r = none ∧ WT 2 g H' ∧ (∀ X : PH, frm [0, 1, 2, 3, 5, 6, 9, 11, 34, 35, 36, 37, 38, 39, 40, 41, 42, 43, 44, 45, 46, 47, 48, 49, 50, 51, 53, 54, 55, 56, 57, 58, 59, 60, 61, 62, 63, 64, 65, 66, 67, 68, 69, 70, 71, 72, 73, 74, 75, 76, 77, 4, 10, 8] X H → frm [0, 1, 2, 3, 5, 6, 9, 11, 34, 35, 36, 37, 38, 39, 40, 41, 42, 43, 44, 45, 46, 47, 48, 49, 50, 51, 53, 54, 55, 56, 57, 58, 59, 60, 61, 62, 63, 64, 65, 66, 67, 68, 69, 70, 71, 72, 73, 74, 75, 76, 77, 4, 10, 8] X H') ∧ IM H' ∧ SC H H' ∧ H' 1 2 = H 1 2 ∧ (∀ x, 0 ≤ x → x ≤ 11 → rem H' x = rem H x) ∧ H' 213 1 = H 213 1) :=
  Ca_mono (Nat.le_refl _) (fun r H' q => ⟨rok_n q.2.1, frz_PE hW hM q.1 q.2.2.2.1 rfl⟩) (ct_X10_rewind G us (gH H) H _ (GOK_gH hM) (WT_self hW) ⟨sref 213 (by decide) rfl, trivial⟩ (fun f hf => by cases hf))

theorem ca_kM {G : zG} {us : Nat} {g : Nat → Nat → Int} (a : Int) (H : PH) (hW : WT 2 g H) (hM : IM H) (a0 : 0 ≤ a) (a1 : a ≤ 12) : Ca G us 1 12 [(2, 1), (0, a)] H (fun r H' => r = none ∧ WT 2 g H' ∧ (∀ X : PH, frm [0, 1, 2, 3, 5, 6, 9, 11, 34, 35, 36, 37, 38, 39, 40, 41, 42, 43, 44, 45, 46, 47, 48, 49, 50, 51, 53, 54, 55, 56, 57, 58, 59, 60, 61, 62, 63, 64, 65, 66, 67, 68, 69, 70, 71, 72, 73, 74, 75, 76, 77, 4, 10, 8] X H → frm [0, 1, 2, 3, 5, 6, 9, 11, 34, 35, 36, 37, 38, 39, 40, 41, 42, 43, 44, 45, 46, 47, 48, 49, 50, 51, 53, 54, 55, 56, 57, 58, 59, 60, 61, 62, 63, 64, 65, 66, 67, 68, 69, 70, 71, 72, 73, 74, 75, 76, 77, 4, 10, 8] X H') ∧ IM H' ∧ SC H H' ∧ H' 1 2 = H 1 2 ∧ (∀ x, 0 ≤ x → x ≤ 11 → rem H' x = rem H x) ∧ H' 213 1 = H 213 1) :=
  Ca_mono (Nat.le_refl _) (fun r H' q => ⟨rok_n q.2.1, frz_PE hW hM q.1 q.2.2.2.1 rfl⟩) (ct_X1_keepMeasured G us (gH H) H _ (GOK_gH hM) (WT_self hW) ⟨sref 1 (by decide) rfl, vin a0 a1, trivial⟩ (fun f hf => by cases hf))

theorem ca_cC {G : zG} {us : Nat} {g : Nat → Nat → Int} (a : Int) (H : PH) (hW : WT 2 g H) (hM : IM H) (a0 : 0 ≤ a) (a1 : a ≤ 8) : Ca G us 2 84 [(2, 2), (0, a)] H (fun r H' => r = none ∧ WT 2 g H' ∧ (∀ X : PH, frm [0, 1, 2, 3, 5, 6, 9, 11, 34, 35, 36, 37, 38, 39, 40, 41, 42, 43, 44, 45, 46, 47, 48, 49, 50, 51, 53, 54, 55, 56, 57, 58, 59, 60, 61, 62, 63, 64, 65, 66, 67, 68, 69, 70, 71, 72, 73, 74, 75, 76, 77, 4, 10, 8] X H → frm [0, 1, 2, 3, 5, 6, 9, 11, 34, 35, 36, 37, 38, 39, 40, 41, 42, 43, 44, 45, 46, 47, 48, 49, 50, 51, 53, 54, 55, 56, 57, 58, 59, 60, 61, 62, 63, 64, 65, 66, 67, 68, 69, 70, 71, 72, 73, 74, 75, 76, 77, 4, 10, 8] X H') ∧ IM H' ∧ SC H H' ∧ H' 1 2 = H 1 2 ∧ (∀ x, 0 ≤ x → x ≤ 11 → rem H' x = rem H x) ∧ H' 213 1 = H 213 1) :=
  Ca_mono (Nat.le_refl _) (fun r H' q => ⟨rok_n q.2.1, frz_PE hW hM q.1 q.2.2.2.1 rfl⟩) (ct_X8_cutCouples G us (gH H) H _ (GOK_gH hM) (WT_self hW) ⟨sref 2 (by decide) rfl, vin a0 a1, trivial⟩ (fun f hf => by cases hf))

set_option maxRecDepth 20000 in
set_option maxHeartbeats 4000000 in
theorem lp_X1_takeItems_14 {G : zG} {us : Nat} {g : Nat → Nat → Int} (H0 : PH) (hW0 : WT 2 g H0) (c : Int)   : ∀ (n : Nat) (ls : PL) (H : PH) (j : Int), (601 - j).toNat < n → pget ls 0 = some (2, 1) → pget ls 1 = some (2, 213) → pget ls 2 = some (0, c) → pget ls 3 = some (0, j) → WT 2 g H → IM H → frm [0, 1, 2, 3, 5, 6, 9, 11, 34, 35, 36, 37, 38, 39, 40, 41, 42, 43, 44, 45, 46, 47, 48, 49, 50, 51, 53, 54, 55, 56, 57, 58, 59, 60, 61, 62, 63, 64, 65, 66, 67, 68, 69, 70, 71, 72, 73, 74, 75, 76, 77, 4, 10, 8] H0 H → GT H0 H → 0 ≤ j → j ≤ 600 → Tr G us kd_X1_takeItems 11 (zget kd_X1_takeItems 14) 14 ls [] H (fun r H' => (∃ x, r = some (0, x)) ∧ WT 2 g H' ∧ frm [0, 1, 2, 3, 5, 6, 9, 11, 34, 35, 36, 37, 38, 39, 40, 41, 42, 43, 44, 45, 46, 47, 48, 49, 50, 51, 53, 54, 55, 56, 57, 58, 59, 60, 61, 62, 63, 64, 65, 66, 67, 68, 69, 70, 71, 72, 73, 74, 75, 76, 77, 4, 10, 8] H0 H' ∧ IM H' ∧ GT H0 H') := by
  intro n
  induction n with
  | zero => intros; omega
  | succ n ih =>
    intro ls H j hn  l0 l1 l2 l3 hW hM hF hG j0 j1
    have t1 := rf_213_1 hW
    have t2 := rf_213_2 hW
    have zj : zw (j + 1) = j + 1 := zw_lit (by omega) (by omega)
    refine tr_lab (D := 10) (t := 14) vb_X1_takeItems_14 _ ve_X1_takeItems_14 ?_
    simp (maxDischargeDepth := 12) [vb_X1_takeItems_14, wB, wI, k1, kI, kR, kL, k2, pget, parg, ppush, pcat, zw_lit, zw_m1, zw_m2, zw_m3, zNC_eq, zrow, pup_app, pget_pss, pget_psx, nlg_some, nlg_none, gv_1_0, gv_213_1, gv_213_2, gv_2_3, tg_10_1, tg_10_2, tg_1_0, tg_8_3, sh_590, sh_1, sh_2, sh_213, zj, l0, l1, l2, l3]
    repeat' (with_reducible (first | (refine And.intro ?_ ?_) | intro _))
    all_goals try (refine Ca_use (ca_X10_next _ (by omega) (by omega) (by omega)) (by omega) ?_; rintro _ _ ⟨rfl, rfl⟩; simp (maxDischargeDepth := 12) [wB, wI, k1, kI, kR, kL, k2, pget, parg, ppush, pcat, zw_lit, zw_m1, zw_m2, zw_m3, zNC_eq, zrow, pup_app, pget_pss, pget_psx, nlg_some, nlg_none, gv_1_0, gv_213_1, gv_213_2, gv_2_3, tg_10_1, tg_10_2, tg_1_0, tg_8_3, sh_590, sh_1, sh_2, sh_213, zj, l0, l1, l2, l3])
    all_goals repeat' (with_reducible (first | (refine And.intro ?_ ?_) | intro _))
    all_goals try (refine Ca_use (ca_X1_takeBill _ hW hM (by omega)) (by omega) ?_; rintro _ _ ⟨x, rfl, hW2, hF2, hM2, hS2, hN2, hR2⟩; simp (maxDischargeDepth := 12) [wB, wI, k1, kI, kR, kL, k2, pget, parg, ppush, pcat, zw_lit, zw_m1, zw_m2, zw_m3, zNC_eq, zrow, pup_app, pget_pss, pget_psx, nlg_some, nlg_none, gv_1_0, gv_213_1, gv_213_2, gv_2_3, tg_10_1, tg_10_2, tg_1_0, tg_8_3, sh_590, sh_1, sh_2, sh_213, zj, l0, l1, l2, l3])
    all_goals repeat' (with_reducible (first | (refine And.intro ?_ ?_) | intro _))
    all_goals try (refine tr_lab (D := 10) (t := 53) vb_X1_takeItems_53 _ ve_X1_takeItems_53 ?_; simp (maxDischargeDepth := 12) [vb_X1_takeItems_53, wB, wI, k1, kI, kR, kL, k2, pget, parg, ppush, pcat, zw_lit, zw_m1, zw_m2, zw_m3, zNC_eq, zrow, pup_app, pget_pss, pget_psx, nlg_some, nlg_none, gv_1_0, gv_213_1, gv_213_2, gv_2_3, tg_10_1, tg_10_2, tg_1_0, tg_8_3, sh_590, sh_1, sh_2, sh_213, zj, l0, l1, l2, l3])
    all_goals repeat' (with_reducible (first | (refine And.intro ?_ ?_) | intro _))
    all_goals try (refine Ca_use (ca_tkC _ hW hM (by omega)) (by omega) ?_; rintro _ _ ⟨⟨x, rfl⟩, hW2, hF2, hM2, hS2, hN2, hR2, hZ2⟩; simp (maxDischargeDepth := 12) [wB, wI, k1, kI, kR, kL, k2, pget, parg, ppush, pcat, zw_lit, zw_m1, zw_m2, zw_m3, zNC_eq, zrow, pup_app, pget_pss, pget_psx, nlg_some, nlg_none, gv_1_0, gv_213_1, gv_213_2, gv_2_3, tg_10_1, tg_10_2, tg_1_0, tg_8_3, sh_590, sh_1, sh_2, sh_213, zj, l0, l1, l2, l3])
    all_goals repeat' (with_reducible (first | (refine And.intro ?_ ?_) | intro _))
    all_goals try (refine tr_lab (D := 10) (t := 68) vb_X1_takeItems_68 _ ve_X1_takeItems_68 ?_; simp (maxDischargeDepth := 12) [vb_X1_takeItems_68, wB, wI, k1, kI, kR, kL, k2, pget, parg, ppush, pcat, zw_lit, zw_m1, zw_m2, zw_m3, zNC_eq, zrow, pup_app, pget_pss, pget_psx, nlg_some, nlg_none, gv_1_0, gv_213_1, gv_213_2, gv_2_3, tg_10_1, tg_10_2, tg_1_0, tg_8_3, sh_590, sh_1, sh_2, sh_213, zj, l0, l1, l2, l3])
    all_goals repeat' (with_reducible (first | (refine And.intro ?_ ?_) | intro _))
    all_goals try (refine Ca_use (ca_tkL _ hW hM (by omega)) (by omega) ?_; rintro _ _ ⟨⟨x, rfl⟩, hW2, hF2, hM2, hS2, hN2, hR2, hZ2⟩; simp (maxDischargeDepth := 12) [wB, wI, k1, kI, kR, kL, k2, pget, parg, ppush, pcat, zw_lit, zw_m1, zw_m2, zw_m3, zNC_eq, zrow, pup_app, pget_pss, pget_psx, nlg_some, nlg_none, gv_1_0, gv_213_1, gv_213_2, gv_2_3, tg_10_1, tg_10_2, tg_1_0, tg_8_3, sh_590, sh_1, sh_2, sh_213, zj, l0, l1, l2, l3])
    all_goals repeat' (with_reducible (first | (refine And.intro ?_ ?_) | intro _))
    all_goals try (refine tr_lab (D := 10) (t := 83) vb_X1_takeItems_83 _ ve_X1_takeItems_83 ?_; simp (maxDischargeDepth := 12) [vb_X1_takeItems_83, wB, wI, k1, kI, kR, kL, k2, pget, parg, ppush, pcat, zw_lit, zw_m1, zw_m2, zw_m3, zNC_eq, zrow, pup_app, pget_pss, pget_psx, nlg_some, nlg_none, gv_1_0, gv_213_1, gv_213_2, gv_2_3, tg_10_1, tg_10_2, tg_1_0, tg_8_3, sh_590, sh_1, sh_2, sh_213, zj, l0, l1, l2, l3])
    all_goals repeat' (with_reducible (first | (refine And.intro ?_ ?_) | intro _))
    all_goals try (refine Ca_use (ca_X10_fail _ _) (by omega) ?_; rintro _ _ ⟨rfl, rfl⟩; simp (maxDischargeDepth := 12) [wB, wI, k1, kI, kR, kL, k2, pget, parg, ppush, pcat, zw_lit, zw_m1, zw_m2, zw_m3, zNC_eq, zrow, pup_app, pget_pss, pget_psx, nlg_some, nlg_none, gv_1_0, gv_213_1, gv_213_2, gv_2_3, tg_10_1, tg_10_2, tg_1_0, tg_8_3, sh_590, sh_1, sh_2, sh_213, zj, l0, l1, l2, l3])
    all_goals repeat' (with_reducible (first | (refine And.intro ?_ ?_) | intro _))
    all_goals try (refine tr_lab (D := 10) (t := 91) vb_X1_takeItems_91 _ ve_X1_takeItems_91 ?_; simp (maxDischargeDepth := 12) [vb_X1_takeItems_91, wB, wI, k1, kI, kR, kL, k2, pget, parg, ppush, pcat, zw_lit, zw_m1, zw_m2, zw_m3, zNC_eq, zrow, pup_app, pget_pss, pget_psx, nlg_some, nlg_none, gv_1_0, gv_213_1, gv_213_2, gv_2_3, tg_10_1, tg_10_2, tg_1_0, tg_8_3, sh_590, sh_1, sh_2, sh_213, zj, l0, l1, l2, l3])
    all_goals repeat' (with_reducible (first | (refine And.intro ?_ ?_) | intro _))
    all_goals try (refine tr_lab (D := 10) (t := 100) vb_X1_takeItems_100 _ ve_X1_takeItems_100 ?_; simp (maxDischargeDepth := 12) [vb_X1_takeItems_100, wB, wI, k1, kI, kR, kL, k2, pget, parg, ppush, pcat, zw_lit, zw_m1, zw_m2, zw_m3, zNC_eq, zrow, pup_app, pget_pss, pget_psx, nlg_some, nlg_none, gv_1_0, gv_213_1, gv_213_2, gv_2_3, tg_10_1, tg_10_2, tg_1_0, tg_8_3, sh_590, sh_1, sh_2, sh_213, zj, l0, l1, l2, l3])
    all_goals repeat' (with_reducible (first | (refine And.intro ?_ ?_) | intro _))
    all_goals try (refine tr_lab (D := 10) (t := 106) vb_X1_takeItems_106 _ ve_X1_takeItems_106 ?_; simp (maxDischargeDepth := 12) [vb_X1_takeItems_106, wB, wI, k1, kI, kR, kL, k2, pget, parg, ppush, pcat, zw_lit, zw_m1, zw_m2, zw_m3, zNC_eq, zrow, pup_app, pget_pss, pget_psx, nlg_some, nlg_none, gv_1_0, gv_213_1, gv_213_2, gv_2_3, tg_10_1, tg_10_2, tg_1_0, tg_8_3, sh_590, sh_1, sh_2, sh_213, zj, l0, l1, l2, l3])
    all_goals repeat' (with_reducible (first | (refine And.intro ?_ ?_) | intro _))
    all_goals try (refine Ca_use (ca_kM 0 _ hW hM (by omega) (by omega)) (by omega) ?_; rintro _ _ ⟨rfl, hW2, hF2, hM2, hS2, hN2, hR2, hZ2⟩; simp (maxDischargeDepth := 12) [wB, wI, k1, kI, kR, kL, k2, pget, parg, ppush, pcat, zw_lit, zw_m1, zw_m2, zw_m3, zNC_eq, zrow, pup_app, pget_pss, pget_psx, nlg_some, nlg_none, gv_1_0, gv_213_1, gv_213_2, gv_2_3, tg_10_1, tg_10_2, tg_1_0, tg_8_3, sh_590, sh_1, sh_2, sh_213, zj, l0, l1, l2, l3])
    all_goals repeat' (with_reducible (first | (refine And.intro ?_ ?_) | intro _))
    all_goals try (refine tr_lab (D := 10) (t := 122) vb_X1_takeItems_122 _ ve_X1_takeItems_122 ?_; simp (maxDischargeDepth := 12) [vb_X1_takeItems_122, wB, wI, k1, kI, kR, kL, k2, pget, parg, ppush, pcat, zw_lit, zw_m1, zw_m2, zw_m3, zNC_eq, zrow, pup_app, pget_pss, pget_psx, nlg_some, nlg_none, gv_1_0, gv_213_1, gv_213_2, gv_2_3, tg_10_1, tg_10_2, tg_1_0, tg_8_3, sh_590, sh_1, sh_2, sh_213, zj, l0, l1, l2, l3])
    all_goals repeat' (with_reducible (first | (refine And.intro ?_ ?_) | intro _))
    all_goals try (refine ih _ _ (j + 1) ?_ ?_ ?_ ?_ ?_ ?_ ?_ ?_ ?_ ?_ ?_)
    all_goals try simp (maxDischargeDepth := 12) [pget_pss, pget_psx, nlg_some, nlg_none, pget, pup_app, l0, l1, l2, l3]
    all_goals (first | omega | assumption | (exact ⟨_, rfl⟩) | (exact hF2 _ hF) | (exact GT_step hW0 hG hS2 hN2 hR2) | (exact GT_step hW0 hG hS2 (by omega) (fun x a b _ => hR2 x a b)) | (exact wf_213_3 hW (by omega) (by omega)) | (exact ff_213_3 hF rfl) | (exact IM_pup hM (by omega)) | (exact GT_213 hG (rf_1_2 hW0).2) | decide | skip)

set_option maxRecDepth 20000 in
set_option maxHeartbeats 4000000 in
theorem ca_X1_takeItems {G : zG} {us : Nat} {g : Nat → Nat → Int}  (H : PH) (hW : WT 2 g H) (hM : IM H) : Ca G us 11 6 [(2, 1), (2, 213)] H (fun r H' => (∃ x, r = some (0, x)) ∧ WT 2 g H' ∧ frm [0, 1, 2, 3, 5, 6, 9, 11, 34, 35, 36, 37, 38, 39, 40, 41, 42, 43, 44, 45, 46, 47, 48, 49, 50, 51, 53, 54, 55, 56, 57, 58, 59, 60, 61, 62, 63, 64, 65, 66, 67, 68, 69, 70, 71, 72, 73, 74, 75, 76, 77, 4, 10, 8] H H' ∧ IM H' ∧ GT H H') := by
  refine ⟨_, _, _, _, _, _, vm_X1_takeItems, by simp [pcat], ?_⟩
  refine tr_lab (D := 10) (t := 0) vb_X1_takeItems_0 _ ve_X1_takeItems_0 ?_
  simp (maxDischargeDepth := 12) [vb_X1_takeItems_0, wB, wI, k1, kI, kR, kL, k2, pget, parg, ppush, pcat, zw_lit, zw_m1, zw_m2, zw_m3, zNC_eq, zrow, pup_app, pget_pss, pget_psx, nlg_some, nlg_none, gv_1_0, gv_213_1, gv_213_2, gv_2_3, tg_10_1, tg_10_2, tg_1_0, tg_8_3, sh_590, sh_1, sh_2, sh_213]
  repeat' (with_reducible (first | (refine And.intro ?_ ?_) | intro _))
  all_goals try (refine Ca_use (ca_rew _ hW hM) (by omega) ?_; rintro _ _ ⟨rfl, hW2, hF2, hM2, hS2, hN2, hR2, hZ2⟩; simp (maxDischargeDepth := 12) [wB, wI, k1, kI, kR, kL, k2, pget, parg, ppush, pcat, zw_lit, zw_m1, zw_m2, zw_m3, zNC_eq, zrow, pup_app, pget_pss, pget_psx, nlg_some, nlg_none, gv_1_0, gv_213_1, gv_213_2, gv_2_3, tg_10_1, tg_10_2, tg_1_0, tg_8_3, sh_590, sh_1, sh_2, sh_213])
  all_goals repeat' (with_reducible (first | (refine And.intro ?_ ?_) | intro _))
  all_goals try ((refine lp_X1_takeItems_14 H hW (H 2 3) 602 _ _ 0 ?_ ?_ ?_ ?_ ?_ ?_ ?_ ?_ ?_ ?_ ?_) <;> (try simp (maxDischargeDepth := 12) [pget_pss, pget_psx, nlg_some, nlg_none, pget, pup_app]))
  all_goals (first | omega | assumption | (exact hF2 _ (frm_refl _ _)) | (exact GT_step hW (GT_refl _) hS2 (by omega) (fun x a b _ => hR2 x a b)) | skip)

theorem cut_end {g : Nat → Nat → Int} {H H1 H2 : PH} {a b : Int} (e1 : SC (pup (pup H 1 2 a) 1 4 b) H1) (n1 : H1 1 2 = pup (pup H 1 2 a) 1 4 b 1 2) (r1 : ∀ x, 0 ≤ x → x ≤ 11 → rem H1 x = rem (pup (pup H 1 2 a) 1 4 b) x) (e2 : SC H1 H2) (n2 : H2 1 2 = H1 1 2) (r2 : ∀ x, 0 ≤ x → x ≤ 11 → rem H2 x = rem H1 x) : SC H H2 ∧ H2 1 2 = a ∧ ∀ x, 0 ≤ x → x ≤ 11 → rem H2 x = rem H x := by
  have q : SC H (pup (pup H 1 2 a) 1 4 b) := by
    refine ⟨rfl, rfl, fun j j0 j1 => ?_⟩
    have hj : 469 + 6 * j ≠ 1 := by omega
    unfold ent
    rw [pup_row hj, pup_row hj]
  refine ⟨SC_trans q (SC_trans e1 e2), n2.trans (n1.trans rfl), fun x x0 x1 => (r2 x x0 x1).trans ((r1 x x0 x1).trans ?_)⟩
  have hj : 57 + 3 * x ≠ 1 := by omega
  unfold rem
  rw [pup_row hj, pup_row hj]

set_option maxRecDepth 20000 in
set_option maxHeartbeats 4000000 in
theorem ca_X1_cutTo {G : zG} {us : Nat} {g : Nat → Nat → Int} (a b c : Int) (H : PH) (hW : WT 2 g H) (hM : IM H) (a0 : 0 ≤ a) (a1 : a ≤ 12) (b0 : 0 ≤ b) (b1 : b ≤ 60) (c0 : 0 ≤ c) (c1 : c ≤ 8) : Ca G us 4 11 [(2, 1), (0, a), (0, b), (0, c)] H (fun r H' => r = none ∧ WT 2 g H' ∧ frm [0, 1, 2, 3, 5, 6, 9, 11, 34, 35, 36, 37, 38, 39, 40, 41, 42, 43, 44, 45, 46, 47, 48, 49, 50, 51, 53, 54, 55, 56, 57, 58, 59, 60, 61, 62, 63, 64, 65, 66, 67, 68, 69, 70, 71, 72, 73, 74, 75, 76, 77, 4, 10, 8] H H' ∧ IM H' ∧ SC H H' ∧ H' 1 2 = a ∧ (∀ x, 0 ≤ x → x ≤ 11 → rem H' x = rem H x) ∧ H' 213 1 = H 213 1) := by
  refine ⟨_, _, _, _, _, _, vm_X1_cutTo, by simp [pcat], ?_⟩
  refine tr_lab (D := 3) (t := 0) vb_X1_cutTo_0 _ ve_X1_cutTo_0 ?_
  simp (maxDischargeDepth := 12) [vb_X1_cutTo_0, wB, wI, k1, kI, kR, kL, k2, pget, parg, ppush, pcat, zw_lit, zw_m1, zw_m2, zw_m3, zNC_eq, zrow, pup_app, pget_pss, pget_psx, nlg_some, nlg_none, gv_1_0, gv_2_3, pe, tg_1_0, tg_1_2, tg_1_4, tg_8_3, zfit, zisI, sh_590, sh_1, sh_2]
  repeat' (with_reducible (first | (refine And.intro ?_ ?_) | intro _))
  all_goals try (refine tr_lab (D := 3) (t := 15) vb_X1_cutTo_15 _ ve_X1_cutTo_15 ?_; simp (maxDischargeDepth := 12) [vb_X1_cutTo_15, wB, wI, k1, kI, kR, kL, k2, pget, parg, ppush, pcat, zw_lit, zw_m1, zw_m2, zw_m3, zNC_eq, zrow, pup_app, pget_pss, pget_psx, nlg_some, nlg_none, gv_1_0, gv_2_3, pe, tg_1_0, tg_1_2, tg_1_4, tg_8_3, zfit, zisI, sh_590, sh_1, sh_2])
  all_goals repeat' (with_reducible (first | (refine And.intro ?_ ?_) | intro _))
  all_goals try (refine tr_lab (D := 3) (t := 16) vb_X1_cutTo_16 _ ve_X1_cutTo_16 ?_; simp (maxDischargeDepth := 12) [vb_X1_cutTo_16, wB, wI, k1, kI, kR, kL, k2, pget, parg, ppush, pcat, zw_lit, zw_m1, zw_m2, zw_m3, zNC_eq, zrow, pup_app, pget_pss, pget_psx, nlg_some, nlg_none, gv_1_0, gv_2_3, pe, tg_1_0, tg_1_2, tg_1_4, tg_8_3, zfit, zisI, sh_590, sh_1, sh_2])
  all_goals repeat' (with_reducible (first | (refine And.intro ?_ ?_) | intro _))
  all_goals try (refine Ca_use (ca_cC _ _ (wf_1_4 (w2_1_2 hW a0 a1) b0 b1) (IM_pup (IM_pup hM (by omega)) (by omega)) (by omega) (by omega)) (by omega) ?_; rintro _ _ ⟨rfl, hW2, hF2, hM2, hS2, hN2, hR2, hZ2⟩; simp (maxDischargeDepth := 12) [wB, wI, k1, kI, kR, kL, k2, pget, parg, ppush, pcat, zw_lit, zw_m1, zw_m2, zw_m3, zNC_eq, zrow, pup_app, pget_pss, pget_psx, nlg_some, nlg_none, gv_1_0, gv_2_3, pe, tg_1_0, tg_1_2, tg_1_4, tg_8_3, zfit, zisI, sh_590, sh_1, sh_2])
  all_goals repeat' (with_reducible (first | (refine And.intro ?_ ?_) | intro _))
  all_goals try (refine tr_lab (D := 3) (t := 46) vb_X1_cutTo_46 _ ve_X1_cutTo_46 ?_; simp (maxDischargeDepth := 12) [vb_X1_cutTo_46, wB, wI, k1, kI, kR, kL, k2, pget, parg, ppush, pcat, zw_lit, zw_m1, zw_m2, zw_m3, zNC_eq, zrow, pup_app, pget_pss, pget_psx, nlg_some, nlg_none, gv_1_0, gv_2_3, pe, tg_1_0, tg_1_2, tg_1_4, tg_8_3, zfit, zisI, sh_590, sh_1, sh_2])
  all_goals repeat' (with_reducible (first | (refine And.intro ?_ ?_) | intro _))
  all_goals try (refine tr_lab (D := 3) (t := 47) vb_X1_cutTo_47 _ ve_X1_cutTo_47 ?_; simp (maxDischargeDepth := 12) [vb_X1_cutTo_47, wB, wI, k1, kI, kR, kL, k2, pget, parg, ppush, pcat, zw_lit, zw_m1, zw_m2, zw_m3, zNC_eq, zrow, pup_app, pget_pss, pget_psx, nlg_some, nlg_none, gv_1_0, gv_2_3, pe, tg_1_0, tg_1_2, tg_1_4, tg_8_3, zfit, zisI, sh_590, sh_1, sh_2])
  all_goals repeat' (with_reducible (first | (refine And.intro ?_ ?_) | intro _))
  all_goals try (refine Ca_use (ca_kM _ _ hW2 hM2 (by omega) (by omega)) (by omega) ?_; rintro _ _ ⟨rfl, hW3, hF3, hM3, hS3, hN3, hR3, hZ3⟩; simp (maxDischargeDepth := 12) [wB, wI, k1, kI, kR, kL, k2, pget, parg, ppush, pcat, zw_lit, zw_m1, zw_m2, zw_m3, zNC_eq, zrow, pup_app, pget_pss, pget_psx, nlg_some, nlg_none, gv_1_0, gv_2_3, pe, tg_1_0, tg_1_2, tg_1_4, tg_8_3, zfit, zisI, sh_590, sh_1, sh_2])
  all_goals repeat' (with_reducible (first | (refine And.intro ?_ ?_) | intro _))
  all_goals (first | omega | assumption | (exact hF3 _ (hF2 _ (ff_1_4 (ff_1_2 (frm_refl _ _) rfl) rfl))) | (exact (cut_end (g := g) hS2 hN2 hR2 hS3 hN3 hR3).1) | (exact (cut_end (g := g) hS2 hN2 hR2 hS3 hN3 hR3).2.1) | (exact (cut_end (g := g) hS2 hN2 hR2 hS3 hN3 hR3).2.2) | (exact (cut_end (g := g) hS2 hN2 hR2 hS3 hN3 hR3).2.2 _ (by assumption) (by assumption)) | (exact hZ3.trans hZ2) | skip)

