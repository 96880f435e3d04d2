/-! ===== readThing, readLaw, law ===== -/
theorem ca_nm {G : zG} {us : Nat} (c : Int) (H : PH) : Ca G us 1 184 [(0, c)] H (fun r H' => H = H' ∧ ∃ z, r = some (0, z) ∧ -1 ≤ z ∧ z ≤ 2 ∧ (z ≠ -1 → 99 ≤ c)) :=
  Ca_mono (Nat.le_refl _) (fun r H' q => ⟨q.1, _, q.2, by split <;> (try split) <;> (try split) <;> omega, by split <;> (try split) <;> (try split) <;> omega, by intro h; split at h <;> (try split at h) <;> (try split at h) <;> omega⟩) (ca_X12_nameOf c H)
theorem ca_dg {G : zG} {us : Nat} {g : Nat → Nat → Int} (H : PH) (hW : WT 2 g H) : Ca G us 2 169 [(2, 590), (0, 4)] H (fun r H' => WT 2 g H' ∧ (∀ X : PH, frm [80, 81, 82, 6012, 7012, 8012, 11012, 12012, 15012] X H → frm [80, 81, 82, 6012, 7012, 8012, 11012, 12012, 15012] X H') ∧ (∀ e w, LSt H e w → LSt H' e w) ∧ H' 590 11 = H 590 11 ∧ H' 590 4 = H 590 4 ∧ (r = some (0, 0) ∨ (r = some (0, 1) ∧ 0 ≤ H' 590 7 ∧ H' 590 7 ≤ 9999))) := by
  have t5 := rf_590_5 hW
  have t4 := rf_590_4 hW
  refine Ca_use (Ca_in (ca_X12_readDigits 4 H t5.1 t4.2 t5.2 (by omega) (by omega))) (Nat.le_refl _) ?_
  rintro r H' ⟨⟨q1, q2, q3, q4⟩, hI⟩
  have hW0 := WT_self hW
  have hW' := WT_mF hW0 (by decide) q2 (Or.inl rfl) (by simp) (mA_mF (WT_mA hW0 (by decide)) q2 (by simp)) hI (by omega)
  have hF' : frm [80, 81, 82, 6012, 7012, 8012, 11012, 12012, 15012] H H' := frm_mF q2 (Or.inl rfl) (Or.inr (by decide))
  have rw_ : ∀ c : Int, c ≠ 590 → H' c = H c := fun c hc => funext fun j => q2 c j (by simp) (fun e => (hc e).elim)
  have fl : ∀ i : Int, i ≠ 5 → i ≠ 6 → i ≠ 7 → H' 590 i = H 590 i := fun i a b c => q2 590 i (by simp) (fun _ => by simp; omega)
  refine ⟨WT_two hW', fun X hX => frm_trans hX hF', fun e w hL => LSt_congr hL (rw_ 595 (by decide)) (rw_ 596 (by decide)) (rw_ 597 (by decide)) (fl 10 (by decide) (by decide) (by decide)) (fl 11 (by decide) (by decide) (by decide)) (fl 14 (by decide) (by decide) (by decide)), fl 11 (by decide) (by decide) (by decide), q1, ?_⟩
  rcases q4 with q | ⟨q, a, b, _⟩
  · exact Or.inl q
  · exact Or.inr ⟨q, a, b⟩

set_option maxRecDepth 20000 in
set_option maxHeartbeats 4000000 in
theorem sg_X12_readThing_64 {G : zG} {us : Nat} {g : Nat → Nat → Int} (H0 : PH) (c t : Int) (t0 : 0 ≤ t) (t1 : t ≤ 29)  : ∀ (ls : PL) (H : PH), pget ls 0 = some (2, 590) → pget ls 1 = some (0, c) → WT 2 g H → frm [80, 81, 82, 6012, 7012, 8012, 11012, 12012, 15012] H0 H → H 590 4 = H0 590 4 → LSt H 0 0 → H 590 11 = t → H 590 14 ≤ 7 → H 590 5 < H 590 4 → Tr G us kd_X12_readThing 3 (zget kd_X12_readThing 64) 64 ls [] H (fun r H' => WT 2 g H' ∧ frm [80, 81, 82, 6012, 7012, 8012, 11012, 12012, 15012] H0 H' ∧ H' 590 4 = H0 590 4 ∧ ((r = some (0, -1) ∧ ∃ d, LN H' d) ∨ (H' 590 11 = t + 1 ∧ ((r = some (0, 0) ∧ LSt H' 0 0) ∨ (r = some (0, 1) ∧ LSt H' 1 0))))) := by
  intro ls H  l0 l1 hW hF f4 hL ht h14 hat
  have h5 := rf_590_5 hW
  have h4 := rf_590_4 hW
  have hn := LSt_n hL (by omega) (by omega)
  have ho := hL.1
  have z11 : zw (t + 1) = t + 1 := zw_lit (by omega) (by omega)
  have z5 : zw (H 590 5 + 1) = H 590 5 + 1 := zw_lit (by omega) (by omega)
  have hm : LSt (pup H 590 11 (t + 1)) 0 2 := by
    have := LSt_more hL (by omega)
    rw [ht] at this
    exact this
  have hn2 : 0 ≤ pup H 590 11 (t + 1) 590 10 ∧ pup H 590 11 (t + 1) 590 10 ≤ 58 := by
    have := LSt_n hm (by omega) (by omega)
    omega
  have hm5 : LSt (pup (pup H 590 11 (t + 1)) 590 5 (H 590 5 + 1)) 0 2 := LSt_at hm (by omega)
  have hv : ∀ x : Int, x < 11000 → LSt (pup (pup (pup (pup H 590 11 (t + 1)) 590 5 (H 590 5 + 1)) 595 (H 590 10) x) 590 10 (H 590 10 + 1)) 1 0 := fun x hx => LSt_val hm5 hx
  have hop : H 590 14 ≤ 7 → LSt (pup (pup (pup (pup (pup H 590 11 (t + 1)) 590 5 (H 590 5 + 1)) 590 14 (H 590 14 + 1)) 596 (H 590 14 + 1) 0) 597 (H 590 14 + 1) 0) 0 0 := fun q => LSt_weak (LSt_open hm5 q) (by omega)
  have zo : zw (H 590 14 + 1) = H 590 14 + 1 := zw_lit (by omega) (by omega)
  refine tr_lab (D := 2) (t := 64) vb_X12_readThing_64 _ ve_X12_readThing_64 ?_
  simp (maxDischargeDepth := 12) [vb_X12_readThing_64, wB, wI, k1, kI, kR, kL, k2, pget, parg, ppush, pcat, zw_lit, zw_m1, zw_m2, zw_m3, zNC_eq, zrow, pup_app, pget_pss, pget_psx, nlg_some, nlg_none, gv_590_11, gv_590_12, gv_590_13, gv_590_14, gv_590_5, gv_590_7, pe, tg_12_11, tg_12_12, tg_12_13, tg_12_14, tg_12_5, tg_12_6, tg_12_7, zfit, zisI, sh_590, sh_596, sh_597, ht, z11, z5, zo, l0, l1]
  repeat' (with_reducible (first | (refine And.intro ?_ ?_) | intro _))
  all_goals try (refine Ca_use (ca_X12_isFigure _ _) (by omega) ?_; rintro _ _ ⟨rfl, rfl⟩; simp (maxDischargeDepth := 12) [wB, wI, k1, kI, kR, kL, k2, pget, parg, ppush, pcat, zw_lit, zw_m1, zw_m2, zw_m3, zNC_eq, zrow, pup_app, pget_pss, pget_psx, nlg_some, nlg_none, gv_590_11, gv_590_12, gv_590_13, gv_590_14, gv_590_5, gv_590_7, pe, tg_12_11, tg_12_12, tg_12_13, tg_12_14, tg_12_5, tg_12_6, tg_12_7, zfit, zisI, sh_590, sh_596, sh_597, ht, z11, z5, zo, l0, l1])
  all_goals repeat' (with_reducible (first | (refine And.intro ?_ ?_) | intro _))
  all_goals try (refine Ca_use (ca_dg (g := g) _ (wf_590_11 hW (by omega) (by omega))) (by omega) ?_; rintro _ _ ⟨hW2, hF2, hL2, e11, e4, (rfl | ⟨rfl, hd1, hd2⟩)⟩; simp (maxDischargeDepth := 12) [wB, wI, k1, kI, kR, kL, k2, pget, parg, ppush, pcat, zw_lit, zw_m1, zw_m2, zw_m3, zNC_eq, zrow, pup_app, pget_pss, pget_psx, nlg_some, nlg_none, gv_590_11, gv_590_12, gv_590_13, gv_590_14, gv_590_5, gv_590_7, pe, tg_12_11, tg_12_12, tg_12_13, tg_12_14, tg_12_5, tg_12_6, tg_12_7, zfit, zisI, sh_590, sh_596, sh_597, ht, z11, z5, zo, l0, l1])
  all_goals repeat' (with_reducible (first | (refine And.intro ?_ ?_) | intro _))
  all_goals try (refine tr_lab (D := 2) (t := 91) vb_X12_readThing_91 _ ve_X12_readThing_91 ?_; simp (maxDischargeDepth := 12) [vb_X12_readThing_91, wB, wI, k1, kI, kR, kL, k2, pget, parg, ppush, pcat, zw_lit, zw_m1, zw_m2, zw_m3, zNC_eq, zrow, pup_app, pget_pss, pget_psx, nlg_some, nlg_none, gv_590_11, gv_590_12, gv_590_13, gv_590_14, gv_590_5, gv_590_7, pe, tg_12_11, tg_12_12, tg_12_13, tg_12_14, tg_12_5, tg_12_6, tg_12_7, zfit, zisI, sh_590, sh_596, sh_597, ht, z11, z5, zo, l0, l1])
  all_goals repeat' (with_reducible (first | (refine And.intro ?_ ?_) | intro _))
  all_goals try (refine Ca_use (ca_X12_does _ _ (by (try simp [pup_app]); first | omega | (have := LSt_n (hL2 _ _ hm) (by omega) (by omega); omega)) (by (try simp [pup_app]); first | omega | (have := LSt_n (hL2 _ _ hm) (by omega) (by omega); omega))) (by omega) ?_; rintro _ _ ⟨rfl, rfl⟩; simp (maxDischargeDepth := 12) [wB, wI, k1, kI, kR, kL, k2, pget, parg, ppush, pcat, zw_lit, zw_m1, zw_m2, zw_m3, zNC_eq, zrow, pup_app, pget_pss, pget_psx, nlg_some, nlg_none, gv_590_11, gv_590_12, gv_590_13, gv_590_14, gv_590_5, gv_590_7, pe, tg_12_11, tg_12_12, tg_12_13, tg_12_14, tg_12_5, tg_12_6, tg_12_7, zfit, zisI, sh_590, sh_596, sh_597, ht, z11, z5, zo, l0, l1])
  all_goals repeat' (with_reducible (first | (refine And.intro ?_ ?_) | intro _))
  all_goals try (refine tr_lab (D := 2) (t := 101) vb_X12_readThing_101 _ ve_X12_readThing_101 ?_; simp (maxDischargeDepth := 12) [vb_X12_readThing_101, wB, wI, k1, kI, kR, kL, k2, pget, parg, ppush, pcat, zw_lit, zw_m1, zw_m2, zw_m3, zNC_eq, zrow, pup_app, pget_pss, pget_psx, nlg_some, nlg_none, gv_590_11, gv_590_12, gv_590_13, gv_590_14, gv_590_5, gv_590_7, pe, tg_12_11, tg_12_12, tg_12_13, tg_12_14, tg_12_5, tg_12_6, tg_12_7, zfit, zisI, sh_590, sh_596, sh_597, ht, z11, z5, zo, l0, l1])
  all_goals repeat' (with_reducible (first | (refine And.intro ?_ ?_) | intro _))
  all_goals try (refine Ca_use (ca_nm _ _) (by omega) ?_; rintro _ _ ⟨rfl, z, rfl, hz1, hz2, hz3⟩; simp (maxDischargeDepth := 12) [wB, wI, k1, kI, kR, kL, k2, pget, parg, ppush, pcat, zw_lit, zw_m1, zw_m2, zw_m3, zNC_eq, zrow, pup_app, pget_pss, pget_psx, nlg_some, nlg_none, gv_590_11, gv_590_12, gv_590_13, gv_590_14, gv_590_5, gv_590_7, pe, tg_12_11, tg_12_12, tg_12_13, tg_12_14, tg_12_5, tg_12_6, tg_12_7, zfit, zisI, sh_590, sh_596, sh_597, ht, z11, z5, zo, l0, l1])
  all_goals repeat' (with_reducible (first | (refine And.intro ?_ ?_) | intro _))
  all_goals try (refine Ca_use (ca_X12_does _ _ (by (try simp [pup_app]); first | omega | (have := LSt_n (hL2 _ _ hm) (by omega) (by omega); omega)) (by (try simp [pup_app]); first | omega | (have := LSt_n (hL2 _ _ hm) (by omega) (by omega); omega))) (by omega) ?_; rintro _ _ ⟨rfl, rfl⟩; simp (maxDischargeDepth := 12) [wB, wI, k1, kI, kR, kL, k2, pget, parg, ppush, pcat, zw_lit, zw_m1, zw_m2, zw_m3, zNC_eq, zrow, pup_app, pget_pss, pget_psx, nlg_some, nlg_none, gv_590_11, gv_590_12, gv_590_13, gv_590_14, gv_590_5, gv_590_7, pe, tg_12_11, tg_12_12, tg_12_13, tg_12_14, tg_12_5, tg_12_6, tg_12_7, zfit, zisI, sh_590, sh_596, sh_597, ht, z11, z5, zo, l0, l1])
  all_goals repeat' (with_reducible (first | (refine And.intro ?_ ?_) | intro _))
  all_goals try (refine tr_lab (D := 2) (t := 131) vb_X12_readThing_131 _ ve_X12_readThing_131 ?_; simp (maxDischargeDepth := 12) [vb_X12_readThing_131, wB, wI, k1, kI, kR, kL, k2, pget, parg, ppush, pcat, zw_lit, zw_m1, zw_m2, zw_m3, zNC_eq, zrow, pup_app, pget_pss, pget_psx, nlg_some, nlg_none, gv_590_11, gv_590_12, gv_590_13, gv_590_14, gv_590_5, gv_590_7, pe, tg_12_11, tg_12_12, tg_12_13, tg_12_14, tg_12_5, tg_12_6, tg_12_7, zfit, zisI, sh_590, sh_596, sh_597, ht, z11, z5, zo, l0, l1])
  all_goals repeat' (with_reducible (first | (refine And.intro ?_ ?_) | intro _))
  all_goals (first | omega | assumption | (exact Or.inl ⟨rfl, _, (hL2 _ _ hm).2.2.1⟩) | (exact Or.inr ⟨e11, Or.inr ⟨rfl, LSt_val (hL2 _ _ hm) (by omega)⟩⟩) | (exact Or.inr ⟨rfl, Or.inr ⟨rfl, hv _ (by omega)⟩⟩) | (exact Or.inr ⟨rfl, Or.inl ⟨rfl, hop (by omega)⟩⟩) | (exact ⟨_, (hL2 _ _ hm).2.2.1⟩) | (exact LSt_val (hL2 _ _ hm) (by omega)) | (exact hv _ (by omega)) | (exact hv _ (by rw [zw_lit (by omega) (by omega)]; omega)) | (exact hop (by omega)) | (have hn3 := LSt_n (hL2 _ _ hm) (by omega) (by omega); (repeat (first | assumption | (refine hF2 _ ?_) | exact frm_refl _ _ | (refine wa_595 ?_ (by omega) (by first | omega | exact zw_lo _ | exact zw_hi _) (by first | omega | exact zw_lo _ | exact zw_hi _)) | (refine wa_596 ?_ (by omega) (by first | omega | exact zw_lo _ | exact zw_hi _) (by first | omega | exact zw_lo _ | exact zw_hi _)) | (refine wa_597 ?_ (by omega) (by first | omega | exact zw_lo _ | exact zw_hi _) (by first | omega | exact zw_lo _ | exact zw_hi _)) | (refine wf_590_5 ?_ (by omega) (by omega)) | (refine wf_590_6 ?_ (by omega) (by omega)) | (refine wf_590_10 ?_ (by omega) (by omega)) | (refine wf_590_11 ?_ (by omega) (by omega)) | (refine wf_590_14 ?_ (by omega) (by omega)) | (refine fa_595 ?_ rfl) | (refine fa_596 ?_ rfl) | (refine fa_597 ?_ rfl) | (refine ff_590_5 ?_ rfl) | (refine ff_590_6 ?_ rfl) | (refine ff_590_10 ?_ rfl) | (refine ff_590_11 ?_ rfl) | (refine ff_590_14 ?_ rfl))); done) | (exact e4.trans f4) | ((repeat (first | assumption | (refine hF2 _ ?_) | exact frm_refl _ _ | (refine wa_595 ?_ (by omega) (by first | omega | exact zw_lo _ | exact zw_hi _) (by first | omega | exact zw_lo _ | exact zw_hi _)) | (refine wa_596 ?_ (by omega) (by first | omega | exact zw_lo _ | exact zw_hi _) (by first | omega | exact zw_lo _ | exact zw_hi _)) | (refine wa_597 ?_ (by omega) (by first | omega | exact zw_lo _ | exact zw_hi _) (by first | omega | exact zw_lo _ | exact zw_hi _)) | (refine wf_590_5 ?_ (by omega) (by omega)) | (refine wf_590_6 ?_ (by omega) (by omega)) | (refine wf_590_10 ?_ (by omega) (by omega)) | (refine wf_590_11 ?_ (by omega) (by omega)) | (refine wf_590_14 ?_ (by omega) (by omega)) | (refine fa_595 ?_ rfl) | (refine fa_596 ?_ rfl) | (refine fa_597 ?_ rfl) | (refine ff_590_5 ?_ rfl) | (refine ff_590_6 ?_ rfl) | (refine ff_590_10 ?_ rfl) | (refine ff_590_11 ?_ rfl) | (refine ff_590_14 ?_ rfl))); done) | ((repeat (first | assumption | (refine LSt_at ?_ (by omega)) | (refine LN_at ?_ (by omega)))); done) | decide | skip)

set_option maxRecDepth 20000 in
set_option maxHeartbeats 4000000 in
theorem ca_X12_readThing {G : zG} {us : Nat} {g : Nat → Nat → Int}  (H : PH) (hW : WT 2 g H) (hL : LSt H 0 0) : Ca G us 3 185 [(2, 590)] H (fun r H' => WT 2 g H' ∧ frm [80, 81, 82, 6012, 7012, 8012, 11012, 12012, 15012] H H' ∧ H' 590 4 = H 590 4 ∧ ((r = some (0, -1) ∧ ∃ d, LN H' d) ∨ (H' 590 11 = H 590 11 + 1 ∧ ((r = some (0, 0) ∧ LSt H' 0 0) ∨ (r = some (0, 1) ∧ LSt H' 1 0))))) := by
  have h5 := rf_590_5 hW
  have h4 := rf_590_4 hW
  have hl := hL.2.2.2.2
  have ho := hL.1
  refine ⟨_, _, _, _, _, _, vm_X12_readThing, by simp [pcat], ?_⟩
  refine tr_lab (D := 2) (t := 0) vb_X12_readThing_0 _ ve_X12_readThing_0 ?_
  simp (maxDischargeDepth := 12) [vb_X12_readThing_0, wB, wI, k1, kI, kR, kL, k2, pget, parg, ppush, pcat, zw_lit, zw_m1, zw_m2, zw_m3, zNC_eq, zrow, pup_app, pget_pss, pget_psx, nlg_some, nlg_none, gv_590_11, gv_590_12, gv_590_13, gv_590_14, gv_590_5, gv_590_7, pe, tg_12_11, tg_12_12, tg_12_13, tg_12_14, tg_12_5, tg_12_6, tg_12_7, zfit, zisI, sh_590]
  repeat' (with_reducible (first | (refine And.intro ?_ ?_) | intro _))
  all_goals try (refine Ca_use (ca_X12_here _ (by (try simp [pup_app]); omega) (by (try simp [pup_app]); omega)) (by omega) ?_; rintro _ _ ⟨rfl, rfl, hx⟩; simp (maxDischargeDepth := 12) [wB, wI, k1, kI, kR, kL, k2, pget, parg, ppush, pcat, zw_lit, zw_m1, zw_m2, zw_m3, zNC_eq, zrow, pup_app, pget_pss, pget_psx, nlg_some, nlg_none, gv_590_11, gv_590_12, gv_590_13, gv_590_14, gv_590_5, gv_590_7, pe, tg_12_11, tg_12_12, tg_12_13, tg_12_14, tg_12_5, tg_12_6, tg_12_7, zfit, zisI, sh_590])
  all_goals repeat' (with_reducible (first | (refine And.intro ?_ ?_) | intro _))
  all_goals try (refine Ca_use (ca_X12_isFigure _ _) (by omega) ?_; rintro _ _ ⟨rfl, rfl⟩; simp (maxDischargeDepth := 12) [wB, wI, k1, kI, kR, kL, k2, pget, parg, ppush, pcat, zw_lit, zw_m1, zw_m2, zw_m3, zNC_eq, zrow, pup_app, pget_pss, pget_psx, nlg_some, nlg_none, gv_590_11, gv_590_12, gv_590_13, gv_590_14, gv_590_5, gv_590_7, pe, tg_12_11, tg_12_12, tg_12_13, tg_12_14, tg_12_5, tg_12_6, tg_12_7, zfit, zisI, sh_590])
  all_goals repeat' (with_reducible (first | (refine And.intro ?_ ?_) | intro _))
  all_goals try (refine Ca_use (ca_nm _ _) (by omega) ?_; rintro _ _ ⟨rfl, z, rfl, hz1, hz2, hz3⟩; simp (maxDischargeDepth := 12) [wB, wI, k1, kI, kR, kL, k2, pget, parg, ppush, pcat, zw_lit, zw_m1, zw_m2, zw_m3, zNC_eq, zrow, pup_app, pget_pss, pget_psx, nlg_some, nlg_none, gv_590_11, gv_590_12, gv_590_13, gv_590_14, gv_590_5, gv_590_7, pe, tg_12_11, tg_12_12, tg_12_13, tg_12_14, tg_12_5, tg_12_6, tg_12_7, zfit, zisI, sh_590])
  all_goals repeat' (with_reducible (first | (refine And.intro ?_ ?_) | intro _))
  all_goals try (refine tr_lab (D := 2) (t := 26) vb_X12_readThing_26 _ ve_X12_readThing_26 ?_; simp (maxDischargeDepth := 12) [vb_X12_readThing_26, wB, wI, k1, kI, kR, kL, k2, pget, parg, ppush, pcat, zw_lit, zw_m1, zw_m2, zw_m3, zNC_eq, zrow, pup_app, pget_pss, pget_psx, nlg_some, nlg_none, gv_590_11, gv_590_12, gv_590_13, gv_590_14, gv_590_5, gv_590_7, pe, tg_12_11, tg_12_12, tg_12_13, tg_12_14, tg_12_5, tg_12_6, tg_12_7, zfit, zisI, sh_590])
  all_goals repeat' (with_reducible (first | (refine And.intro ?_ ?_) | intro _))
  all_goals try (refine tr_lab (D := 2) (t := 30) vb_X12_readThing_30 _ ve_X12_readThing_30 ?_; simp (maxDischargeDepth := 12) [vb_X12_readThing_30, wB, wI, k1, kI, kR, kL, k2, pget, parg, ppush, pcat, zw_lit, zw_m1, zw_m2, zw_m3, zNC_eq, zrow, pup_app, pget_pss, pget_psx, nlg_some, nlg_none, gv_590_11, gv_590_12, gv_590_13, gv_590_14, gv_590_5, gv_590_7, pe, tg_12_11, tg_12_12, tg_12_13, tg_12_14, tg_12_5, tg_12_6, tg_12_7, zfit, zisI, sh_590])
  all_goals repeat' (with_reducible (first | (refine And.intro ?_ ?_) | intro _))
  all_goals try (refine tr_lab (D := 2) (t := 31) vb_X12_readThing_31 _ ve_X12_readThing_31 ?_; simp (maxDischargeDepth := 12) [vb_X12_readThing_31, wB, wI, k1, kI, kR, kL, k2, pget, parg, ppush, pcat, zw_lit, zw_m1, zw_m2, zw_m3, zNC_eq, zrow, pup_app, pget_pss, pget_psx, nlg_some, nlg_none, gv_590_11, gv_590_12, gv_590_13, gv_590_14, gv_590_5, gv_590_7, pe, tg_12_11, tg_12_12, tg_12_13, tg_12_14, tg_12_5, tg_12_6, tg_12_7, zfit, zisI, sh_590])
  all_goals repeat' (with_reducible (first | (refine And.intro ?_ ?_) | intro _))
  all_goals try (refine tr_lab (D := 2) (t := 54) vb_X12_readThing_54 _ ve_X12_readThing_54 ?_; simp (maxDischargeDepth := 12) [vb_X12_readThing_54, wB, wI, k1, kI, kR, kL, k2, pget, parg, ppush, pcat, zw_lit, zw_m1, zw_m2, zw_m3, zNC_eq, zrow, pup_app, pget_pss, pget_psx, nlg_some, nlg_none, gv_590_11, gv_590_12, gv_590_13, gv_590_14, gv_590_5, gv_590_7, pe, tg_12_11, tg_12_12, tg_12_13, tg_12_14, tg_12_5, tg_12_6, tg_12_7, zfit, zisI, sh_590])
  all_goals repeat' (with_reducible (first | (refine And.intro ?_ ?_) | intro _))
  all_goals try ((refine sg_X12_readThing_64 H (hr H) (H 590 11) (by omega) (by omega) _ _ ?_ ?_ ?_ ?_ ?_ ?_ ?_ ?_ ?_) <;> (try simp (maxDischargeDepth := 12) [pget_pss, pget_psx, nlg_some, nlg_none, pget, pup_app]))
  all_goals (first | omega | assumption | (exact Or.inl ⟨rfl, _, LN_at hL.2.2.1 (by omega)⟩) | (exact ⟨_, LN_at hL.2.2.1 (by omega)⟩) | rfl | ((repeat (first | assumption | (refine hF2 _ ?_) | exact frm_refl _ _ | (refine wa_595 ?_ (by omega) (by first | omega | exact zw_lo _ | exact zw_hi _) (by first | omega | exact zw_lo _ | exact zw_hi _)) | (refine wa_596 ?_ (by omega) (by first | omega | exact zw_lo _ | exact zw_hi _) (by first | omega | exact zw_lo _ | exact zw_hi _)) | (refine wa_597 ?_ (by omega) (by first | omega | exact zw_lo _ | exact zw_hi _) (by first | omega | exact zw_lo _ | exact zw_hi _)) | (refine wf_590_5 ?_ (by omega) (by omega)) | (refine wf_590_6 ?_ (by omega) (by omega)) | (refine wf_590_10 ?_ (by omega) (by omega)) | (refine wf_590_11 ?_ (by omega) (by omega)) | (refine wf_590_14 ?_ (by omega) (by omega)) | (refine fa_595 ?_ rfl) | (refine fa_596 ?_ rfl) | (refine fa_597 ?_ rfl) | (refine ff_590_5 ?_ rfl) | (refine ff_590_6 ?_ rfl) | (refine ff_590_10 ?_ rfl) | (refine ff_590_11 ?_ rfl) | (refine ff_590_14 ?_ rfl))); done) | ((repeat (first | assumption | (refine LSt_at ?_ (by omega)) | (refine LN_at ?_ (by omega)))); done) | decide | skip)

theorem LSt_init {H : PH} (a : H 590 10 = 0) (b : H 590 11 = 0) (c : H 590 14 = 0) (d : H 596 0 = 0) (e : H 597 0 = 0) : LSt H 0 0 := by
  have ep : PCH H = 0 := by
    unfold PCH
    rw [c]
    show 0 + sg1 (H 596 0) + sg1 (H 597 0) = 0
    rw [d, e, sg1_0]
    rfl
  unfold LSt
  rw [ep, a, b, c]
  refine ⟨by omega, fun j j0 j1 => ?_, ⟨?_, by omega, fun k hk => by omega⟩, by omega, by omega, by omega⟩
  · have : j = 0 := by omega
    rw [this, d, e]
    omega
  · rw [a]
    rfl

set_option maxRecDepth 20000 in
set_option maxHeartbeats 4000000 in
theorem sg_X12_readLaw_52a {G : zG} {us : Nat} {g : Nat → Nat → Int} (H0 : PH) (d : Int)  : ∀ (ls : PL) (H : PH), pget ls 0 = some (2, 590) → pget ls 1 = some (0, 0) → WT 2 g H → frm [80, 81, 82, 6012, 7012, 8012, 11012, 12012, 15012] H0 H → LN H d → Tr G us kd_X12_readLaw 4 (zget kd_X12_readLaw 52) 52 ls [] H (fun r H' => (∃ x, r = some (0, x)) ∧ WT 2 g H' ∧ frm [80, 81, 82, 6012, 7012, 8012, 11012, 12012, 15012] H0 H' ∧ ∃ d, LN H' d) := by
  intro ls H  l0 l1 hW hF hN
  refine tr_lab (D := 3) (t := 52) vb_X12_readLaw_52 _ ve_X12_readLaw_52 ?_
  simp (maxDischargeDepth := 12) [vb_X12_readLaw_52, wB, wI, k1, kI, kR, kL, k2, pget, parg, ppush, pcat, zw_lit, zw_m1, zw_m2, zw_m3, zNC_eq, zrow, pup_app, pget_pss, pget_psx, nlg_some, nlg_none, gv_590_12, gv_590_13, gv_590_4, gv_590_6, pe, tg_12_10, tg_12_11, tg_12_12, tg_12_13, tg_12_14, tg_12_4, tg_12_5, tg_12_6, zfit, zisI, sh_590, l0, l1]
  repeat' (with_reducible (first | (refine And.intro ?_ ?_) | intro _))
  all_goals try (refine Ca_use (ca_X12_readThing _ hW hL) (by omega) ?_; rintro _ _ _; simp (maxDischargeDepth := 12) [wB, wI, k1, kI, kR, kL, k2, pget, parg, ppush, pcat, zw_lit, zw_m1, zw_m2, zw_m3, zNC_eq, zrow, pup_app, pget_pss, pget_psx, nlg_some, nlg_none, gv_590_12, gv_590_13, gv_590_4, gv_590_6, pe, tg_12_10, tg_12_11, tg_12_12, tg_12_13, tg_12_14, tg_12_4, tg_12_5, tg_12_6, zfit, zisI, sh_590, l0, l1])
  all_goals repeat' (with_reducible (first | (refine And.intro ?_ ?_) | intro _))
  all_goals try (refine tr_lab (D := 3) (t := 88) vb_X12_readLaw_88 _ ve_X12_readLaw_88 ?_; simp (maxDischargeDepth := 12) [vb_X12_readLaw_88, wB, wI, k1, kI, kR, kL, k2, pget, parg, ppush, pcat, zw_lit, zw_m1, zw_m2, zw_m3, zNC_eq, zrow, pup_app, pget_pss, pget_psx, nlg_some, nlg_none, gv_590_12, gv_590_13, gv_590_4, gv_590_6, pe, tg_12_10, tg_12_11, tg_12_12, tg_12_13, tg_12_14, tg_12_4, tg_12_5, tg_12_6, zfit, zisI, sh_590, l0, l1])
  all_goals repeat' (with_reducible (first | (refine And.intro ?_ ?_) | intro _))
  all_goals try (refine tr_lab (D := 3) (t := 100) vb_X12_readLaw_100 _ ve_X12_readLaw_100 ?_; simp (maxDischargeDepth := 12) [vb_X12_readLaw_100, wB, wI, k1, kI, kR, kL, k2, pget, parg, ppush, pcat, zw_lit, zw_m1, zw_m2, zw_m3, zNC_eq, zrow, pup_app, pget_pss, pget_psx, nlg_some, nlg_none, gv_590_12, gv_590_13, gv_590_4, gv_590_6, pe, tg_12_10, tg_12_11, tg_12_12, tg_12_13, tg_12_14, tg_12_4, tg_12_5, tg_12_6, zfit, zisI, sh_590, l0, l1])
  all_goals repeat' (with_reducible (first | (refine And.intro ?_ ?_) | intro _))
  all_goals try (refine tr_lab (D := 3) (t := 101) vb_X12_readLaw_101 _ ve_X12_readLaw_101 ?_; simp (maxDischargeDepth := 12) [vb_X12_readLaw_101, wB, wI, k1, kI, kR, kL, k2, pget, parg, ppush, pcat, zw_lit, zw_m1, zw_m2, zw_m3, zNC_eq, zrow, pup_app, pget_pss, pget_psx, nlg_some, nlg_none, gv_590_12, gv_590_13, gv_590_4, gv_590_6, pe, tg_12_10, tg_12_11, tg_12_12, tg_12_13, tg_12_14, tg_12_4, tg_12_5, tg_12_6, zfit, zisI, sh_590, l0, l1])
  all_goals repeat' (with_reducible (first | (refine And.intro ?_ ?_) | intro _))
  all_goals (first | omega | assumption | (exact ⟨_, rfl⟩) | (exact ⟨_, hN⟩) | skip)

set_option maxRecDepth 20000 in
set_option maxHeartbeats 4000000 in
theorem sg_X12_readLaw_52b {G : zG} {us : Nat} {g : Nat → Nat → Int} (H0 : PH) (T : Int) (ihx : ∀ (ls : PL) (H : PH), T < H 590 11 → pget ls 0 = some (2, 590) → pget ls 1 = some (0, 1) → WT 2 g H → frm [80, 81, 82, 6012, 7012, 8012, 11012, 12012, 15012] H0 H → LSt H 0 0 → Tr G us kd_X12_readLaw 4 (zget kd_X12_readLaw 52) 52 ls [] H (fun r H' => (∃ x, r = some (0, x)) ∧ WT 2 g H' ∧ frm [80, 81, 82, 6012, 7012, 8012, 11012, 12012, 15012] H0 H' ∧ ∃ d, LN H' d))  : ∀ (ls : PL) (H : PH), pget ls 0 = some (2, 590) → pget ls 1 = some (0, 1) → H 590 11 = T → WT 2 g H → frm [80, 81, 82, 6012, 7012, 8012, 11012, 12012, 15012] H0 H → LSt H 0 0 → Tr G us kd_X12_readLaw 4 (zget kd_X12_readLaw 52) 52 ls [] H (fun r H' => (∃ x, r = some (0, x)) ∧ WT 2 g H' ∧ frm [80, 81, 82, 6012, 7012, 8012, 11012, 12012, 15012] H0 H' ∧ ∃ d, LN H' d) := by
  intro ls H  l0 l1 hT hW hF hL
  refine tr_lab (D := 3) (t := 52) vb_X12_readLaw_52 _ ve_X12_readLaw_52 ?_
  simp (maxDischargeDepth := 12) [vb_X12_readLaw_52, wB, wI, k1, kI, kR, kL, k2, pget, parg, ppush, pcat, zw_lit, zw_m1, zw_m2, zw_m3, zNC_eq, zrow, pup_app, pget_pss, pget_psx, nlg_some, nlg_none, gv_590_12, gv_590_13, gv_590_4, gv_590_6, pe, tg_12_10, tg_12_11, tg_12_12, tg_12_13, tg_12_14, tg_12_4, tg_12_5, tg_12_6, zfit, zisI, sh_590, l0, l1]
  repeat' (with_reducible (first | (refine And.intro ?_ ?_) | intro _))
  all_goals try (refine Ca_use (ca_X12_readThing H hW hL) (by omega) ?_; rintro _ _ ⟨hW2, hF2, e42, (⟨rfl, d2, hN2⟩ | ⟨e11, (⟨rfl, hL2⟩ | ⟨rfl, hL2⟩)⟩)⟩; simp (maxDischargeDepth := 12) [wB, wI, k1, kI, kR, kL, k2, pget, parg, ppush, pcat, zw_lit, zw_m1, zw_m2, zw_m3, zNC_eq, zrow, pup_app, pget_pss, pget_psx, nlg_some, nlg_none, gv_590_12, gv_590_13, gv_590_4, gv_590_6, pe, tg_12_10, tg_12_11, tg_12_12, tg_12_13, tg_12_14, tg_12_4, tg_12_5, tg_12_6, zfit, zisI, sh_590, l0, l1])
  all_goals repeat' (with_reducible (first | (refine And.intro ?_ ?_) | intro _))
  all_goals try (refine tr_lab (D := 3) (t := 68) vb_X12_readLaw_68 _ ve_X12_readLaw_68 ?_; simp (maxDischargeDepth := 12) [vb_X12_readLaw_68, wB, wI, k1, kI, kR, kL, k2, pget, parg, ppush, pcat, zw_lit, zw_m1, zw_m2, zw_m3, zNC_eq, zrow, pup_app, pget_pss, pget_psx, nlg_some, nlg_none, gv_590_12, gv_590_13, gv_590_4, gv_590_6, pe, tg_12_10, tg_12_11, tg_12_12, tg_12_13, tg_12_14, tg_12_4, tg_12_5, tg_12_6, zfit, zisI, sh_590, l0, l1])
  all_goals repeat' (with_reducible (first | (refine And.intro ?_ ?_) | intro _))
  all_goals try (refine Ca_use (ca_X12_goesOn _ hW2 hL2) (by omega) ?_; rintro _ _ ⟨hW3, hF3, (⟨rfl, d3, hN3⟩ | ⟨rfl, hL3⟩)⟩; simp (maxDischargeDepth := 12) [wB, wI, k1, kI, kR, kL, k2, pget, parg, ppush, pcat, zw_lit, zw_m1, zw_m2, zw_m3, zNC_eq, zrow, pup_app, pget_pss, pget_psx, nlg_some, nlg_none, gv_590_12, gv_590_13, gv_590_4, gv_590_6, pe, tg_12_10, tg_12_11, tg_12_12, tg_12_13, tg_12_14, tg_12_4, tg_12_5, tg_12_6, zfit, zisI, sh_590, l0, l1])
  all_goals repeat' (with_reducible (first | (refine And.intro ?_ ?_) | intro _))
  all_goals try (refine tr_lab (D := 3) (t := 79) vb_X12_readLaw_79 _ ve_X12_readLaw_79 ?_; simp (maxDischargeDepth := 12) [vb_X12_readLaw_79, wB, wI, k1, kI, kR, kL, k2, pget, parg, ppush, pcat, zw_lit, zw_m1, zw_m2, zw_m3, zNC_eq, zrow, pup_app, pget_pss, pget_psx, nlg_some, nlg_none, gv_590_12, gv_590_13, gv_590_4, gv_590_6, pe, tg_12_10, tg_12_11, tg_12_12, tg_12_13, tg_12_14, tg_12_4, tg_12_5, tg_12_6, zfit, zisI, sh_590, l0, l1])
  all_goals repeat' (with_reducible (first | (refine And.intro ?_ ?_) | intro _))
  all_goals try (refine tr_lab (D := 3) (t := 83) vb_X12_readLaw_83 _ ve_X12_readLaw_83 ?_; simp (maxDischargeDepth := 12) [vb_X12_readLaw_83, wB, wI, k1, kI, kR, kL, k2, pget, parg, ppush, pcat, zw_lit, zw_m1, zw_m2, zw_m3, zNC_eq, zrow, pup_app, pget_pss, pget_psx, nlg_some, nlg_none, gv_590_12, gv_590_13, gv_590_4, gv_590_6, pe, tg_12_10, tg_12_11, tg_12_12, tg_12_13, tg_12_14, tg_12_4, tg_12_5, tg_12_6, zfit, zisI, sh_590, l0, l1])
  all_goals repeat' (with_reducible (first | (refine And.intro ?_ ?_) | intro _))
  all_goals try (refine tr_lab (D := 3) (t := 84) vb_X12_readLaw_84 _ ve_X12_readLaw_84 ?_; simp (maxDischargeDepth := 12) [vb_X12_readLaw_84, wB, wI, k1, kI, kR, kL, k2, pget, parg, ppush, pcat, zw_lit, zw_m1, zw_m2, zw_m3, zNC_eq, zrow, pup_app, pget_pss, pget_psx, nlg_some, nlg_none, gv_590_12, gv_590_13, gv_590_4, gv_590_6, pe, tg_12_10, tg_12_11, tg_12_12, tg_12_13, tg_12_14, tg_12_4, tg_12_5, tg_12_6, zfit, zisI, sh_590, l0, l1])
  all_goals repeat' (with_reducible (first | (refine And.intro ?_ ?_) | intro _))
  all_goals try ((first | (refine sg_X12_readLaw_52a H0 d3 _ _ ?_ pget_pss ?_ ?_ ?_ <;> (try simp (maxDischargeDepth := 12) [pget_pss, pget_psx, nlg_some, nlg_none, pget, pup_app, l0])) | (refine ihx _ _ ?_ ?_ ?_ ?_ ?_ ?_ <;> (try simp (maxDischargeDepth := 12) [pget_pss, pget_psx, nlg_some, nlg_none, pget, pup_app, l0]))))
  all_goals (first | omega | assumption | (exact ⟨_, rfl⟩) | (exact ⟨_, hN2⟩) | (exact frm_trans hF hF2) | (exact frm_trans (frm_trans hF hF2) (frm_sub rfl hF3)) | (have e12 := hF3 590 11 (by decide) rfl; have e13 : ∀ X : PH, gv X ((590 : Nat) : Int) 11 = X 590 11 := fun X => rfl; rw [e13, e13] at e12; omega) | skip)

theorem law_52 {G : zG} {us : Nat} {g : Nat → Nat → Int} (H0 : PH) : ∀ (n : Nat) (ls : PL) (H : PH), 30 - H 590 11 < n → pget ls 0 = some (2, 590) → pget ls 1 = some (0, 1) → WT 2 g H → frm [80, 81, 82, 6012, 7012, 8012, 11012, 12012, 15012] H0 H → LSt H 0 0 → Tr G us kd_X12_readLaw 4 (zget kd_X12_readLaw 52) 52 ls [] H (fun r H' => (∃ x, r = some (0, x)) ∧ WT 2 g H' ∧ frm [80, 81, 82, 6012, 7012, 8012, 11012, 12012, 15012] H0 H' ∧ ∃ d, LN H' d) := by
  intro n
  induction n with
  | zero =>
    intro ls H hn l0 l1 hW hF hL
    have := hL.2.2.2.2
    omega
  | succ n ih =>
    intro ls H hn l0 l1 hW hF hL
    exact sg_X12_readLaw_52b H0 (H 590 11) (fun ls H1 h => ih ls H1 (by omega)) ls H l0 l1 rfl hW hF hL

set_option maxRecDepth 20000 in
set_option maxHeartbeats 4000000 in
theorem ca_X12_readLaw {G : zG} {us : Nat} {g : Nat → Nat → Int}  (H : PH) (hW : WT 2 g H) : Ca G us 4 188 [(2, 590)] H (fun r H' => (∃ x, r = some (0, x)) ∧ WT 2 g H' ∧ frm [80, 81, 82, 6012, 7012, 8012, 11012, 12012, 15012] H H' ∧ ∃ d, LN H' d) := by
  refine ⟨_, _, _, _, _, _, vm_X12_readLaw, by simp [pcat], ?_⟩
  refine tr_lab (D := 3) (t := 0) vb_X12_readLaw_0 _ ve_X12_readLaw_0 ?_
  simp (maxDischargeDepth := 12) [vb_X12_readLaw_0, wB, wI, k1, kI, kR, kL, k2, pget, parg, ppush, pcat, zw_lit, zw_m1, zw_m2, zw_m3, zNC_eq, zrow, pup_app, pget_pss, pget_psx, nlg_some, nlg_none, gv_590_12, gv_590_13, gv_590_4, gv_590_6, pe, tg_12_10, tg_12_11, tg_12_12, tg_12_13, tg_12_14, tg_12_4, tg_12_5, tg_12_6, zfit, zisI, sh_590, sh_596, sh_597]
  repeat' (with_reducible (first | (refine And.intro ?_ ?_) | intro _))
  all_goals try (refine tr_lab (D := 3) (t := 50) vb_X12_readLaw_50 _ ve_X12_readLaw_50 ?_; simp (maxDischargeDepth := 12) [vb_X12_readLaw_50, wB, wI, k1, kI, kR, kL, k2, pget, parg, ppush, pcat, zw_lit, zw_m1, zw_m2, zw_m3, zNC_eq, zrow, pup_app, pget_pss, pget_psx, nlg_some, nlg_none, gv_590_12, gv_590_13, gv_590_4, gv_590_6, pe, tg_12_10, tg_12_11, tg_12_12, tg_12_13, tg_12_14, tg_12_4, tg_12_5, tg_12_6, zfit, zisI, sh_590, sh_596, sh_597])
  all_goals repeat' (with_reducible (first | (refine And.intro ?_ ?_) | intro _))
  all_goals try (refine tr_lab (D := 3) (t := 51) vb_X12_readLaw_51 _ ve_X12_readLaw_51 ?_; simp (maxDischargeDepth := 12) [vb_X12_readLaw_51, wB, wI, k1, kI, kR, kL, k2, pget, parg, ppush, pcat, zw_lit, zw_m1, zw_m2, zw_m3, zNC_eq, zrow, pup_app, pget_pss, pget_psx, nlg_some, nlg_none, gv_590_12, gv_590_13, gv_590_4, gv_590_6, pe, tg_12_10, tg_12_11, tg_12_12, tg_12_13, tg_12_14, tg_12_4, tg_12_5, tg_12_6, zfit, zisI, sh_590, sh_596, sh_597])
  all_goals repeat' (with_reducible (first | (refine And.intro ?_ ?_) | intro _))
  all_goals try ((first | (refine sg_X12_readLaw_52a H 0 _ _ ?_ pget_pss ?_ ?_ ?_ <;> (try simp (maxDischargeDepth := 12) [pget_pss, pget_psx, nlg_some, nlg_none, pget, pup_app])) | (refine law_52 H 31 _ _ ?_ ?_ ?_ ?_ ?_ ?_ <;> (try simp (maxDischargeDepth := 12) [pget_pss, pget_psx, nlg_some, nlg_none, pget, pup_app]))))
  all_goals (first | omega | assumption | (exact LSt_init rfl rfl rfl rfl rfl) | (exact (LSt_init rfl rfl rfl rfl rfl).2.2.1) | ((repeat (first | assumption | (refine hF2 _ ?_) | exact frm_refl _ _ | (refine wa_595 ?_ (by omega) (by first | omega | exact zw_lo _ | exact zw_hi _) (by first | omega | exact zw_lo _ | exact zw_hi _)) | (refine wa_596 ?_ (by omega) (by first | omega | exact zw_lo _ | exact zw_hi _) (by first | omega | exact zw_lo _ | exact zw_hi _)) | (refine wa_597 ?_ (by omega) (by first | omega | exact zw_lo _ | exact zw_hi _) (by first | omega | exact zw_lo _ | exact zw_hi _)) | (refine wf_590_5 ?_ (by omega) (by omega)) | (refine wf_590_6 ?_ (by omega) (by omega)) | (refine wf_590_10 ?_ (by omega) (by omega)) | (refine wf_590_11 ?_ (by omega) (by omega)) | (refine wf_590_14 ?_ (by omega) (by omega)) | (refine fa_595 ?_ rfl) | (refine fa_596 ?_ rfl) | (refine fa_597 ?_ rfl) | (refine ff_590_5 ?_ rfl) | (refine ff_590_6 ?_ rfl) | (refine ff_590_10 ?_ rfl) | (refine ff_590_11 ?_ rfl) | (refine ff_590_14 ?_ rfl))); done) | ((repeat (first | assumption | (refine LSt_at ?_ (by omega)) | (refine LN_at ?_ (by omega)))); done) | decide | skip)

theorem aT_law : ∀ k, k < 92 → 5 ≤ k → allT k = vtop := by decide +kernel
theorem av_law {k v : Int} (k0 : 5 ≤ k) (k1 : k < 92) (h1 : -2147483648 ≤ v) (h2 : v ≤ 2147483647) : aval (allT k.toNat) ((allT k.toNat).1, v) := av_top (aT_law k.toNat (by omega) (by omega)) h1 h2
def CL (H : PH) (k : Int) : Prop := ∀ j, 0 ≤ j → j < k → H 591 (12 + j) = H 595 j
theorem CL_next {H : PH} {k : Int} (h : CL H k) : CL (pup H 591 (12 + k) (H 595 k)) (k + 1) := by
  intro j j0 j1
  rw [pup_row (c' := 595) (by decide)]
  by_cases c : j = k
  · rw [c]
    exact if_pos ⟨rfl, rfl⟩
  · have : pup H 591 (12 + k) (H 595 k) 591 (12 + j) = H 591 (12 + j) := if_neg (fun q => by have := q.2; omega)
    rw [this]
    exact h j j0 (by omega)
theorem CL_end {H : PH} {n d : Int} (hN : LN H d) (hn : H 590 10 = n) (n1 : n ≤ 64) (e : H 591 11 = n) (h : CL H n) (hK : KP H) : IM H := by
  obtain ⟨h1, h2, h3⟩ := hN
  have ef : ∀ k : Nat, (k : Int) < n → H 591 (((12 + k : Nat)) : Int) = nf H (12 + k) := fun k hk => by
    have := h k (by omega) hk
    rw [show (((12 + k : Nat)) : Int) = 12 + (k : Int) by omega, this]
    unfold nf
    rw [show (((12 + k : Nat)) : Int) - 12 = k by omega]
  have el : ∀ k : Nat, (k : Int) ≤ n → ldp (fun k : Nat => H 591 k) k = ldp (nf H) k := fun k hk => ldp_lt k (fun j hj => ef j (by omega))
  refine ⟨⟨?_, ?_, fun k hk => ?_⟩, hK⟩
  · show 0 ≤ H 591 11
    omega
  · show H 591 11 ≤ 64
    omega
  · have hk : (k : Int) < H 591 11 := hk
    have := h3 k (by omega)
    rw [el k (by omega)]
    show (H 591 (((12 + k : Nat)) : Int) < 11000 → _) ∧ (¬ H 591 (((12 + k : Nat)) : Int) < 11000 → _)
    rw [ef k (by omega)]
    exact this
theorem LN_591 {H : PH} {d i v : Int} (h : LN H d) : LN (pup H 591 i v) d := LN_congr h (pup_row (by decide)) rfl
theorem KP_591 {H : PH} {i v : Int} (h : KP H) : KP (pup H 591 i v) := KP_up h (Or.inl rfl)
theorem rd595 {H H' : PH} (h : frm [33, 3012] H H') : H' 595 = H 595 := funext fun j => by
  have e := h 595 j (by decide) (by
    rw [show tau 595 = 80 from rfl]
    rfl)
  have e1 : ∀ X : PH, gv X ((595 : Nat) : Int) j = X 595 j := fun X => gv_none (zrt_row (c := 595) (by decide) (by decide +kernel))
  rw [e1, e1] at e
  exact e
theorem ca_law_deed {G : zG} {us : Nat} {g : Nat → Nat → Int} (H : PH) (hW : WT 2 g H) (hM : IM H) : Ca G us 1 158 [(2, 590)] H (fun r H' => r = none ∧ WT 2 g H' ∧ (∀ X : PH, frm [32, 33, 80, 81, 82, 3012, 5012, 6012, 7012, 8012, 11012, 12012, 15012] X H → frm [32, 33, 80, 81, 82, 3012, 5012, 6012, 7012, 8012, 11012, 12012, 15012] X H') ∧ KP H' ∧ (∀ d, LN H d → LN H' d) ∧ H' 590 4 = H 590 4 ∧ (-2147483648 ≤ H' 590 11 ∧ H' 590 11 ≤ 2147483647) ∧ ∃ n0, H' 590 10 = n0 ∧ 0 ≤ n0 ∧ n0 ≤ 64) :=
  Ca_mono (Nat.le_refl _) (fun r H' q => ⟨q.1, q.2.1, fun X hX => frm_trans hX (frm_sub rfl q.2.2.1), q.2.2.2.2, fun d h => LN_congr h (rd595 q.2.2.1) (q.2.2.1 590 10 (by decide) rfl), q.2.2.1 590 4 (by decide) rfl, rf_590_11 q.2.1, _, rfl, (rf_590_10 q.2.1).1, (rf_590_10 q.2.1).2⟩) (ca_X12_deed H hW hM)

set_option maxRecDepth 20000 in
set_option maxHeartbeats 4000000 in
theorem lp_X12_law_44 {G : zG} {us : Nat} {g : Nat → Nat → Int} (H0 : PH) (n0 d : Int) (n64 : n0 ≤ 64)   : ∀ (n : Nat) (ls : PL) (H : PH) (k : Int), (64 - k).toNat < n → pget ls 0 = some (2, 590) → pget ls 2 = some (0, k) → WT 2 g H → frm [32, 33, 80, 81, 82, 3012, 5012, 6012, 7012, 8012, 11012, 12012, 15012] H0 H → H 590 4 = 0 → KP H → LN H d → H 590 10 = n0 → H 591 11 = n0 → CL H k → 0 ≤ k → k ≤ n0 → Tr G us kd_X12_law 5 (zget kd_X12_law 44) 44 ls [] H (fun r H' => (∃ x, r = some (0, x)) ∧ WT 2 g H' ∧ frm [32, 33, 80, 81, 82, 3012, 5012, 6012, 7012, 8012, 11012, 12012, 15012] H0 H' ∧ IM H' ∧ H' 590 4 = 0) := by
  intro n
  induction n with
  | zero => intros; omega
  | succ n ih =>
    intro ls H k hn  l0 l2 hW hF h4 hK hN hn0 e11 hc kk0 kk1
    have zk : zw (k + 1) = k + 1 := zw_lit (by omega) (by omega)
    have z12 : zw (12 + k) = 12 + k := zw_lit (by omega) (by omega)
    have hin : k < 64 → -2147483648 ≤ H 595 k ∧ H 595 k ≤ 2147483647 := fun q => ra_595 hW kk0 q
    refine tr_lab (D := 4) (t := 44) vb_X12_law_44 _ ve_X12_law_44 ?_
    simp (maxDischargeDepth := 12) [vb_X12_law_44, wB, wI, k1, kI, kR, kL, k2, pget, parg, ppush, pcat, zw_lit, zw_m1, zw_m2, zw_m3, zNC_eq, zrow, pup_app, pget_pss, pget_psx, nlg_some, nlg_none, gv_590_0, gv_590_10, gv_590_11, gv_590_9, pe, tg_12_0, tg_12_10, tg_12_11, tg_12_4, tg_12_9, zfit, zisI, sh_590, sh_591, sh_595, hn0, zk, z12, l0, l2]
    repeat' (with_reducible (first | (refine And.intro ?_ ?_) | intro _))
    all_goals try (refine tr_lab (D := 4) (t := 73) vb_X12_law_73 _ ve_X12_law_73 ?_; simp (maxDischargeDepth := 12) [vb_X12_law_73, wB, wI, k1, kI, kR, kL, k2, pget, parg, ppush, pcat, zw_lit, zw_m1, zw_m2, zw_m3, zNC_eq, zrow, pup_app, pget_pss, pget_psx, nlg_some, nlg_none, gv_590_0, gv_590_10, gv_590_11, gv_590_9, pe, tg_12_0, tg_12_10, tg_12_11, tg_12_4, tg_12_9, zfit, zisI, sh_590, sh_591, sh_595, hn0, zk, z12, l0, l2])
    all_goals repeat' (with_reducible (first | (refine And.intro ?_ ?_) | intro _))
    all_goals try (refine ih _ _ (k + 1) ?_ ?_ ?_ ?_ ?_ ?_ ?_ ?_ ?_ ?_ ?_ ?_ ?_)
    all_goals try simp (maxDischargeDepth := 12) [pget_pss, pget_psx, nlg_some, nlg_none, pget, pup_app, l0, l2]
    all_goals (first | omega | assumption | (exact ⟨_, rfl⟩) | (rw [u591 (by omega)]; assumption) | (exact CL_next hc) | (exact CL_end hN hn0 n64 e11 (by rw [show n0 = k by omega]; exact hc) hK) | ((repeat (first | assumption | exact frm_refl _ _ | (exact hF2 _ hF) | (refine WT_wr ?_ (by omega) (by omega) (av_law (by omega) (by omega) (by omega) (by omega))) | (refine fa_591 ?_ rfl) | (refine LN_591 ?_) | (refine KP_591 ?_))); done) | skip)

set_option maxRecDepth 20000 in
set_option maxHeartbeats 4000000 in
theorem sg_X12_law_16 {G : zG} {us : Nat} {g : Nat → Nat → Int} (H0 : PH) (d : Int)  : ∀ (ls : PL) (H : PH), pget ls 0 = some (2, 590) → WT 2 g H → frm [32, 33, 80, 81, 82, 3012, 5012, 6012, 7012, 8012, 11012, 12012, 15012] H0 H → H 590 4 = 0 → IM H → LN H d → Tr G us kd_X12_law 5 (zget kd_X12_law 16) 16 ls [] H (fun r H' => (∃ x, r = some (0, x)) ∧ WT 2 g H' ∧ frm [32, 33, 80, 81, 82, 3012, 5012, 6012, 7012, 8012, 11012, 12012, 15012] H0 H' ∧ IM H' ∧ H' 590 4 = 0) := by
  intro ls H  l0 hW hF h4 hM hN
  refine tr_lab (D := 4) (t := 16) vb_X12_law_16 _ ve_X12_law_16 ?_
  simp (maxDischargeDepth := 12) [vb_X12_law_16, wB, wI, k1, kI, kR, kL, k2, pget, parg, ppush, pcat, zw_lit, zw_m1, zw_m2, zw_m3, zNC_eq, zrow, pup_app, pget_pss, pget_psx, nlg_some, nlg_none, gv_590_0, gv_590_10, gv_590_11, gv_590_9, pe, tg_12_0, tg_12_10, tg_12_11, tg_12_4, tg_12_9, zfit, zisI, sh_590, sh_591, l0]
  repeat' (with_reducible (first | (refine And.intro ?_ ?_) | intro _))
  all_goals try (refine Ca_use (ca_law_deed _ (by assumption) (by assumption)) (by omega) ?_; rintro _ _ ⟨rfl, hW2, hF2, hK2, hN2, e4, t11, n0, hn0, n00, n64⟩; simp (maxDischargeDepth := 12) [wB, wI, k1, kI, kR, kL, k2, pget, parg, ppush, pcat, zw_lit, zw_m1, zw_m2, zw_m3, zNC_eq, zrow, pup_app, pget_pss, pget_psx, nlg_some, nlg_none, gv_590_0, gv_590_10, gv_590_11, gv_590_9, pe, tg_12_0, tg_12_10, tg_12_11, tg_12_4, tg_12_9, zfit, zisI, sh_590, sh_591, l0])
  all_goals repeat' (with_reducible (first | (refine And.intro ?_ ?_) | intro _))
  all_goals try ((refine lp_X12_law_44 H0 n0 d n64 65 _ _ 0 ?_ ?_ ?_ ?_ ?_ ?_ ?_ ?_ ?_ ?_ ?_ ?_ ?_) <;> (try simp (maxDischargeDepth := 12) [pget_pss, pget_psx, nlg_some, nlg_none, pget, pup_app, l0]))
  all_goals (first | omega | assumption | (exact fun j a b => by omega) | (exact hF2 _ hF) | (exact LN_591 (LN_591 (hN2 _ hN))) | ((repeat (first | assumption | (refine hF2 _ ?_) | exact frm_refl _ _ | (exact hF2 _ hF) | (refine WT_wr ?_ (by omega) (by omega) (av_law (by omega) (by omega) (by omega) (by omega))) | (refine fa_591 ?_ rfl) | (refine LN_591 ?_) | (refine KP_591 ?_))); done) | skip)

set_option maxRecDepth 20000 in
set_option maxHeartbeats 4000000 in
theorem ca_X12_law {G : zG} {us : Nat} {g : Nat → Nat → Int}  (H : PH) (hW : WT 2 g H) (hM : IM H) : Ca G us 5 189 [(2, 590)] H (fun r H' => (∃ x, r = some (0, x)) ∧ WT 2 g H' ∧ frm [32, 33, 80, 81, 82, 3012, 5012, 6012, 7012, 8012, 11012, 12012, 15012] H H' ∧ IM H' ∧ H' 590 4 = 0) := by
  refine ⟨_, _, _, _, _, _, vm_X12_law, by simp [pcat], ?_⟩
  refine tr_lab (D := 4) (t := 0) vb_X12_law_0 _ ve_X12_law_0 ?_
  simp (maxDischargeDepth := 12) [vb_X12_law_0, wB, wI, k1, kI, kR, kL, k2, pget, parg, ppush, pcat, zw_lit, zw_m1, zw_m2, zw_m3, zNC_eq, zrow, pup_app, pget_pss, pget_psx, nlg_some, nlg_none, gv_590_0, gv_590_10, gv_590_11, gv_590_9, pe, tg_12_0, tg_12_10, tg_12_11, tg_12_4, tg_12_9, zfit, zisI, sh_590]
  repeat' (with_reducible (first | (refine And.intro ?_ ?_) | intro _))
  all_goals try (refine Ca_use (ca_X12_readLaw H hW) (by omega) ?_; rintro _ _ ⟨⟨x, rfl⟩, hW2, hF2, d, hN2⟩; simp (maxDischargeDepth := 12) [wB, wI, k1, kI, kR, kL, k2, pget, parg, ppush, pcat, zw_lit, zw_m1, zw_m2, zw_m3, zNC_eq, zrow, pup_app, pget_pss, pget_psx, nlg_some, nlg_none, gv_590_0, gv_590_10, gv_590_11, gv_590_9, pe, tg_12_0, tg_12_10, tg_12_11, tg_12_4, tg_12_9, zfit, zisI, sh_590])
  all_goals repeat' (with_reducible (first | (refine And.intro ?_ ?_) | intro _))
  all_goals try ((refine sg_X12_law_16 H d _ _ ?_ ?_ ?_ ?_ ?_ ?_) <;> (try simp (maxDischargeDepth := 12) [pget_pss, pget_psx, nlg_some, nlg_none, pget, pup_app]))
  all_goals (first | omega | assumption | (exact ⟨_, rfl⟩) | rfl | (exact w2_590_4 hW2 (by omega) (by omega)) | (exact ff_590_4 (frm_sub rfl hF2) rfl) | (exact LN_at hN2 (by omega)) | (have hI := IM_same hW (SM_frm hF2 rfl rfl rfl rfl) hM; exact ⟨hI.1, KP_up hI.2 (Or.inr (Or.inr ⟨rfl, rfl⟩))⟩) | skip)

