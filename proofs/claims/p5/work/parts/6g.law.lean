set_option maxRecDepth 20000 in
set_option maxHeartbeats 4000000 in
theorem ca_isPS {G : zG} {us : Nat}  (H : PH) (ha0 : 0 ≤ H 590 5) (ht : H 590 4 ≤ 600) : Ca G us 2 186 [(2, 590)] H (fun r H' => H = H' ∧ (r = some (0, 0) ∨ (r = some (0, 1) ∧ H 590 5 < H 590 4 ∧ 42 ≤ hr H ∧ hr H ≤ 62))) := by
  refine ⟨_, _, _, _, _, _, vm_X12_isProductSign, by simp [pcat], ?_⟩
  refine tr_lab (D := 1) (t := 0) vb_X12_isProductSign_0 _ ve_X12_isProductSign_0 ?_
  simp (maxDischargeDepth := 12) [vb_X12_isProductSign_0, wB, wI, k1, kI, kR, kL, k2, pget, parg, ppush, pcat, zw_lit, zw_m1, zw_m2, zw_m3, zNC_eq, zrow, pup_app, pget_pss, pget_psx, nlg_some, nlg_none, sh_590]
  repeat' (with_reducible (first | (refine And.intro ?_ ?_) | intro _))
  all_goals try (refine Ca_use (ca_X12_here _ (by (try simp [pup_app]); omega) (by (try simp [pup_app]); omega)) (by omega) ?_; rintro _ _ ⟨rfl, rfl, hx⟩; simp (maxDischargeDepth := 12) [wB, wI, k1, kI, kR, kL, k2, pget, parg, ppush, pcat, zw_lit, zw_m1, zw_m2, zw_m3, zNC_eq, zrow, pup_app, pget_pss, pget_psx, nlg_some, nlg_none, sh_590])
  all_goals repeat' (with_reducible (first | (refine And.intro ?_ ?_) | intro _))
  all_goals try (refine Ca_use (ca_X12_here _ (by (try simp [pup_app]); omega) (by (try simp [pup_app]); omega)) (by omega) ?_; rintro _ _ ⟨rfl, rfl, hx⟩; simp (maxDischargeDepth := 12) [wB, wI, k1, kI, kR, kL, k2, pget, parg, ppush, pcat, zw_lit, zw_m1, zw_m2, zw_m3, zNC_eq, zrow, pup_app, pget_pss, pget_psx, nlg_some, nlg_none, sh_590])
  all_goals repeat' (with_reducible (first | (refine And.intro ?_ ?_) | intro _))
  all_goals try (refine Ca_use (ca_X12_here _ (by (try simp [pup_app]); omega) (by (try simp [pup_app]); omega)) (by omega) ?_; rintro _ _ ⟨rfl, rfl, hx⟩; simp (maxDischargeDepth := 12) [wB, wI, k1, kI, kR, kL, k2, pget, parg, ppush, pcat, zw_lit, zw_m1, zw_m2, zw_m3, zNC_eq, zrow, pup_app, pget_pss, pget_psx, nlg_some, nlg_none, sh_590])
  all_goals repeat' (with_reducible (first | (refine And.intro ?_ ?_) | intro _))
  all_goals try (refine Ca_use (ca_X12_here _ (by (try simp [pup_app]); omega) (by (try simp [pup_app]); omega)) (by omega) ?_; rintro _ _ ⟨rfl, rfl, hx⟩; simp (maxDischargeDepth := 12) [wB, wI, k1, kI, kR, kL, k2, pget, parg, ppush, pcat, zw_lit, zw_m1, zw_m2, zw_m3, zNC_eq, zrow, pup_app, pget_pss, pget_psx, nlg_some, nlg_none, sh_590])
  all_goals repeat' (with_reducible (first | (refine And.intro ?_ ?_) | intro _))
  all_goals try (refine tr_lab (D := 1) (t := 36) vb_X12_isProductSign_36 _ ve_X12_isProductSign_36 ?_; simp (maxDischargeDepth := 12) [vb_X12_isProductSign_36, wB, wI, k1, kI, kR, kL, k2, pget, parg, ppush, pcat, zw_lit, zw_m1, zw_m2, zw_m3, zNC_eq, zrow, pup_app, pget_pss, pget_psx, nlg_some, nlg_none, sh_590])
  all_goals repeat' (with_reducible (first | (refine And.intro ?_ ?_) | intro _))
  all_goals try (refine tr_lab (D := 1) (t := 40) vb_X12_isProductSign_40 _ ve_X12_isProductSign_40 ?_; simp (maxDischargeDepth := 12) [vb_X12_isProductSign_40, wB, wI, k1, kI, kR, kL, k2, pget, parg, ppush, pcat, zw_lit, zw_m1, zw_m2, zw_m3, zNC_eq, zrow, pup_app, pget_pss, pget_psx, nlg_some, nlg_none, sh_590])
  all_goals repeat' (with_reducible (first | (refine And.intro ?_ ?_) | intro _))
  all_goals try (refine tr_lab (D := 1) (t := 41) vb_X12_isProductSign_41 _ ve_X12_isProductSign_41 ?_; simp (maxDischargeDepth := 12) [vb_X12_isProductSign_41, wB, wI, k1, kI, kR, kL, k2, pget, parg, ppush, pcat, zw_lit, zw_m1, zw_m2, zw_m3, zNC_eq, zrow, pup_app, pget_pss, pget_psx, nlg_some, nlg_none, sh_590])
  all_goals repeat' (with_reducible (first | (refine And.intro ?_ ?_) | intro _))
  all_goals (first | omega | (simp; done) | skip)

set_option maxRecDepth 20000 in
set_option maxHeartbeats 4000000 in
theorem sg_X12_goesOn_134 {G : zG} {us : Nat} {g : Nat → Nat → Int} (H0 : PH) (O : Int) (ihx : ∀ (ls : PL) (H : PH), H 590 14 < O → pget ls 0 = some (2, 590) → WT 2 g H → frm [80, 81, 82, 6012, 7012, 11012, 15012] H0 H → LSt H 1 0 → Tr G us kd_X12_goesOn 3 (zget kd_X12_goesOn 0) 0 ls [] H (fun r H' => WT 2 g H' ∧ frm [80, 81, 82, 6012, 7012, 11012, 15012] H0 H' ∧ ((r = some (0, 0) ∧ ∃ d, LN H' d) ∨ (r = some (0, 1) ∧ LSt H' 0 0)))) (o : Int) (o0 : 0 ≤ o) (o8 : o ≤ 8) (hoO : o = O)  : ∀ (ls : PL) (H : PH), pget ls 0 = some (2, 590) → pget ls 1 = some (0, o) → WT 2 g H → frm [80, 81, 82, 6012, 7012, 11012, 15012] H0 H → H 590 14 = o → LSt H 1 0 → H 597 o = 0 → H 596 o = 0 → Tr G us kd_X12_goesOn 3 (zget kd_X12_goesOn 134) 134 ls [] H (fun r H' => WT 2 g H' ∧ frm [80, 81, 82, 6012, 7012, 11012, 15012] H0 H' ∧ ((r = some (0, 0) ∧ ∃ d, LN H' d) ∨ (r = some (0, 1) ∧ LSt H' 0 0))) := by
  intro ls H  l0 l1 hW hF ho hL hp hs
  have h5 := rf_590_5 hW
  have h4 := rf_590_4 hW
  have z5 : H 590 5 < H 590 4 → zw (H 590 5 + 1) = H 590 5 + 1 := fun _ => zw_lit (by omega) (by omega)
  have zo : zw (o - 1) = o - 1 := zw_lit (by omega) (by omega)
  have hcl : 1 ≤ o → LSt (pup H 590 14 (o - 1)) 1 0 := fun q => by
    have := LSt_close hL (by omega) (by rw [ho]; exact hs) (by rw [ho]; exact hp)
    rw [ho] at this
    exact this
  have hcl5 : 1 ≤ o → LSt (pup (pup H 590 5 (H 590 5 + 1)) 590 14 (o - 1)) 1 0 := fun q => by
    have h := LSt_close (LSt_at (i := 5) (v := H 590 5 + 1) hL (by omega)) (H := pup H 590 5 (H 590 5 + 1)) (by show 1 ≤ H 590 14; omega) (by show H 596 (H 590 14) = 0; rw [ho]; exact hs) (by show H 597 (H 590 14) = 0; rw [ho]; exact hp)
    have e : pup H 590 5 (H 590 5 + 1) 590 14 = H 590 14 := rfl
    rw [e, ho] at h
    exact h
  refine tr_lab (D := 2) (t := 134) vb_X12_goesOn_134 _ ve_X12_goesOn_134 ?_
  simp (maxDischargeDepth := 12) [vb_X12_goesOn_134, wB, wI, k1, kI, kR, kL, k2, pget, parg, ppush, pcat, zw_lit, zw_m1, zw_m2, zw_m3, zNC_eq, zrow, pup_app, pget_pss, pget_psx, nlg_some, nlg_none, gv_590_12, gv_590_13, gv_590_14, gv_590_4, gv_590_5, pe, tg_12_12, tg_12_13, tg_12_14, tg_12_4, tg_12_5, zfit, zisI, sh_590, ho, zo, l0, l1]
  repeat' (with_reducible (first | (refine And.intro ?_ ?_) | intro _))
  all_goals try (refine Ca_use (ca_X12_fails _ _) (by omega) ?_; rintro _ _ ⟨rfl, rfl⟩; simp (maxDischargeDepth := 12) [wB, wI, k1, kI, kR, kL, k2, pget, parg, ppush, pcat, zw_lit, zw_m1, zw_m2, zw_m3, zNC_eq, zrow, pup_app, pget_pss, pget_psx, nlg_some, nlg_none, gv_590_12, gv_590_13, gv_590_14, gv_590_4, gv_590_5, pe, tg_12_12, tg_12_13, tg_12_14, tg_12_4, tg_12_5, zfit, zisI, sh_590, ho, zo, l0, l1])
  all_goals repeat' (with_reducible (first | (refine And.intro ?_ ?_) | intro _))
  all_goals try (refine tr_lab (D := 2) (t := 164) vb_X12_goesOn_164 _ ve_X12_goesOn_164 ?_; simp (maxDischargeDepth := 12) [vb_X12_goesOn_164, wB, wI, k1, kI, kR, kL, k2, pget, parg, ppush, pcat, zw_lit, zw_m1, zw_m2, zw_m3, zNC_eq, zrow, pup_app, pget_pss, pget_psx, nlg_some, nlg_none, gv_590_12, gv_590_13, gv_590_14, gv_590_4, gv_590_5, pe, tg_12_12, tg_12_13, tg_12_14, tg_12_4, tg_12_5, zfit, zisI, sh_590, ho, zo, l0, l1])
  all_goals repeat' (with_reducible (first | (refine And.intro ?_ ?_) | intro _))
  all_goals try (refine tr_lab (D := 2) (t := 165) vb_X12_goesOn_165 _ ve_X12_goesOn_165 ?_; simp (maxDischargeDepth := 12) [vb_X12_goesOn_165, wB, wI, k1, kI, kR, kL, k2, pget, parg, ppush, pcat, zw_lit, zw_m1, zw_m2, zw_m3, zNC_eq, zrow, pup_app, pget_pss, pget_psx, nlg_some, nlg_none, gv_590_12, gv_590_13, gv_590_14, gv_590_4, gv_590_5, pe, tg_12_12, tg_12_13, tg_12_14, tg_12_4, tg_12_5, zfit, zisI, sh_590, ho, zo, l0, l1])
  all_goals repeat' (with_reducible (first | (refine And.intro ?_ ?_) | intro _))
  all_goals try (refine tr_lab (D := 2) (t := 166) vb_X12_goesOn_166 _ ve_X12_goesOn_166 ?_; simp (maxDischargeDepth := 12) [vb_X12_goesOn_166, wB, wI, k1, kI, kR, kL, k2, pget, parg, ppush, pcat, zw_lit, zw_m1, zw_m2, zw_m3, zNC_eq, zrow, pup_app, pget_pss, pget_psx, nlg_some, nlg_none, gv_590_12, gv_590_13, gv_590_14, gv_590_4, gv_590_5, pe, tg_12_12, tg_12_13, tg_12_14, tg_12_4, tg_12_5, zfit, zisI, sh_590, ho, zo, l0, l1])
  all_goals repeat' (with_reducible (first | (refine And.intro ?_ ?_) | intro _))
  all_goals try (refine Ca_use (ca_X12_here _ (by (try simp [pup_app]); omega) (by (try simp [pup_app]); omega)) (by omega) ?_; rintro _ _ ⟨rfl, rfl, hx⟩; simp (maxDischargeDepth := 12) [wB, wI, k1, kI, kR, kL, k2, pget, parg, ppush, pcat, zw_lit, zw_m1, zw_m2, zw_m3, zNC_eq, zrow, pup_app, pget_pss, pget_psx, nlg_some, nlg_none, gv_590_12, gv_590_13, gv_590_14, gv_590_4, gv_590_5, pe, tg_12_12, tg_12_13, tg_12_14, tg_12_4, tg_12_5, zfit, zisI, sh_590, ho, zo, l0, l1])
  all_goals repeat' (with_reducible (first | (refine And.intro ?_ ?_) | intro _))
  all_goals try (refine Ca_use (ca_X12_fails _ _) (by omega) ?_; rintro _ _ ⟨rfl, rfl⟩; simp (maxDischargeDepth := 12) [wB, wI, k1, kI, kR, kL, k2, pget, parg, ppush, pcat, zw_lit, zw_m1, zw_m2, zw_m3, zNC_eq, zrow, pup_app, pget_pss, pget_psx, nlg_some, nlg_none, gv_590_12, gv_590_13, gv_590_14, gv_590_4, gv_590_5, pe, tg_12_12, tg_12_13, tg_12_14, tg_12_4, tg_12_5, zfit, zisI, sh_590, ho, zo, l0, l1])
  all_goals repeat' (with_reducible (first | (refine And.intro ?_ ?_) | intro _))
  all_goals try (refine tr_lab (D := 2) (t := 184) vb_X12_goesOn_184 _ ve_X12_goesOn_184 ?_; simp (maxDischargeDepth := 12) [vb_X12_goesOn_184, wB, wI, k1, kI, kR, kL, k2, pget, parg, ppush, pcat, zw_lit, zw_m1, zw_m2, zw_m3, zNC_eq, zrow, pup_app, pget_pss, pget_psx, nlg_some, nlg_none, gv_590_12, gv_590_13, gv_590_14, gv_590_4, gv_590_5, pe, tg_12_12, tg_12_13, tg_12_14, tg_12_4, tg_12_5, zfit, zisI, sh_590, ho, zo, l0, l1])
  all_goals repeat' (with_reducible (first | (refine And.intro ?_ ?_) | intro _))
  all_goals try ((refine ihx _ _ ?_ ?_ ?_ ?_ ?_) <;> (try simp (maxDischargeDepth := 12) [pget_pss, pget_psx, nlg_some, nlg_none, pget, pup_app, l0]))
  all_goals (first | omega | assumption | (exact Or.inl ⟨rfl, _, hL.2.2.1⟩) | (exact Or.inl ⟨rfl, _, LN_at hL.2.2.1 (by omega)⟩) | (exact ⟨_, hL.2.2.1⟩) | (exact ⟨_, LN_at hL.2.2.1 (by omega)⟩) | ((repeat (first | assumption | exact frm_refl _ _ | (refine wa_595 ?_ (by omega) (by first | omega | exact zw_lo _ | exact zw_hi _) (by first | omega | exact zw_lo _ | exact zw_hi _)) | (refine wa_596 ?_ (by omega) (by first | omega | exact zw_lo _ | exact zw_hi _) (by first | omega | exact zw_lo _ | exact zw_hi _)) | (refine wa_597 ?_ (by omega) (by first | omega | exact zw_lo _ | exact zw_hi _) (by first | omega | exact zw_lo _ | exact zw_hi _)) | (refine wf_590_5 ?_ (by omega) (by omega)) | (refine wf_590_6 ?_ (by omega) (by omega)) | (refine wf_590_10 ?_ (by omega) (by omega)) | (refine wf_590_11 ?_ (by omega) (by omega)) | (refine wf_590_14 ?_ (by omega) (by omega)) | (refine fa_595 ?_ rfl) | (refine fa_596 ?_ rfl) | (refine fa_597 ?_ rfl) | (refine ff_590_5 ?_ rfl) | (refine ff_590_6 ?_ rfl) | (refine ff_590_10 ?_ rfl) | (refine ff_590_11 ?_ rfl) | (refine ff_590_14 ?_ rfl))); done) | ((repeat (first | assumption | (refine LSt_at ?_ (by omega)) | (refine LN_at ?_ (by omega)))); done) | (exact hcl5 (by omega)) | (rw [zw_lit (by omega) (by omega)]; exact hcl5 (by omega)) | (rw [zw_lit (by omega) (by omega)]; (repeat (first | assumption | exact frm_refl _ _ | (refine wa_595 ?_ (by omega) (by first | omega | exact zw_lo _ | exact zw_hi _) (by first | omega | exact zw_lo _ | exact zw_hi _)) | (refine wa_596 ?_ (by omega) (by first | omega | exact zw_lo _ | exact zw_hi _) (by first | omega | exact zw_lo _ | exact zw_hi _)) | (refine wa_597 ?_ (by omega) (by first | omega | exact zw_lo _ | exact zw_hi _) (by first | omega | exact zw_lo _ | exact zw_hi _)) | (refine wf_590_5 ?_ (by omega) (by omega)) | (refine wf_590_6 ?_ (by omega) (by omega)) | (refine wf_590_10 ?_ (by omega) (by omega)) | (refine wf_590_11 ?_ (by omega) (by omega)) | (refine wf_590_14 ?_ (by omega) (by omega)) | (refine fa_595 ?_ rfl) | (refine fa_596 ?_ rfl) | (refine fa_597 ?_ rfl) | (refine ff_590_5 ?_ rfl) | (refine ff_590_6 ?_ rfl) | (refine ff_590_10 ?_ rfl) | (refine ff_590_11 ?_ rfl) | (refine ff_590_14 ?_ rfl))); done) | decide | skip)

set_option maxRecDepth 20000 in
set_option maxHeartbeats 4000000 in
theorem sg_X12_goesOn_87 {G : zG} {us : Nat} {g : Nat → Nat → Int} (H0 : PH) (O : Int) (ihx : ∀ (ls : PL) (H : PH), H 590 14 < O → pget ls 0 = some (2, 590) → WT 2 g H → frm [80, 81, 82, 6012, 7012, 11012, 15012] H0 H → LSt H 1 0 → Tr G us kd_X12_goesOn 3 (zget kd_X12_goesOn 0) 0 ls [] H (fun r H' => WT 2 g H' ∧ frm [80, 81, 82, 6012, 7012, 11012, 15012] H0 H' ∧ ((r = some (0, 0) ∧ ∃ d, LN H' d) ∨ (r = some (0, 1) ∧ LSt H' 0 0)))) (o : Int) (o0 : 0 ≤ o) (o8 : o ≤ 8) (hoO : o = O)  : ∀ (ls : PL) (H : PH), pget ls 0 = some (2, 590) → pget ls 1 = some (0, o) → WT 2 g H → frm [80, 81, 82, 6012, 7012, 11012, 15012] H0 H → H 590 14 = o → LSt (pup H 596 o 0) 1 0 → H 597 o = 0 → Tr G us kd_X12_goesOn 3 (zget kd_X12_goesOn 87) 87 ls [] H (fun r H' => WT 2 g H' ∧ frm [80, 81, 82, 6012, 7012, 11012, 15012] H0 H' ∧ ((r = some (0, 0) ∧ ∃ d, LN H' d) ∨ (r = some (0, 1) ∧ LSt H' 0 0))) := by
  intro ls H  l0 l1 hW hF ho hL hp
  have h5 := rf_590_5 hW
  have h4 := rf_590_4 hW
  have z5 : H 590 5 < H 590 4 → zw (H 590 5 + 1) = H 590 5 + 1 := fun _ => zw_lit (by omega) (by omega)
  have e14 : pup H 596 o 0 590 14 = o := ho
  have eo : pup H 596 o 0 596 o = 0 := if_pos ⟨rfl, rfl⟩
  have p5 : pup H 596 o 0 590 5 = H 590 5 := rfl
  have p4 : pup H 596 o 0 590 4 = H 590 4 := rfl
  have hset : ∀ v : Int, 1 ≤ v → v ≤ 255 → LSt (pup (pup H 596 o 0) 596 o v) 0 0 := fun v v0 v1 => by
    have := LSt_596 (v := v) (e' := 0) hL (by omega) v1 (by rw [e14, eo, sg1_0, sg1_1 (by omega)]; rfl)
    rw [e14] at this
    exact this
  refine tr_lab (D := 2) (t := 87) vb_X12_goesOn_87 _ ve_X12_goesOn_87 ?_
  simp (maxDischargeDepth := 12) [vb_X12_goesOn_87, wB, wI, k1, kI, kR, kL, k2, pget, parg, ppush, pcat, zw_lit, zw_m1, zw_m2, zw_m3, zNC_eq, zrow, pup_app, pget_pss, pget_psx, nlg_some, nlg_none, gv_590_12, gv_590_13, gv_590_14, gv_590_4, gv_590_5, pe, tg_12_12, tg_12_13, tg_12_14, tg_12_4, tg_12_5, zfit, zisI, sh_590, sh_596, ho, l0, l1]
  repeat' (with_reducible (first | (refine And.intro ?_ ?_) | intro _))
  all_goals try (refine Ca_use (ca_X12_here _ (by (try simp [pup_app]); omega) (by (try simp [pup_app]); omega)) (by omega) ?_; rintro _ _ ⟨rfl, rfl, hx⟩; simp (maxDischargeDepth := 12) [wB, wI, k1, kI, kR, kL, k2, pget, parg, ppush, pcat, zw_lit, zw_m1, zw_m2, zw_m3, zNC_eq, zrow, pup_app, pget_pss, pget_psx, nlg_some, nlg_none, gv_590_12, gv_590_13, gv_590_14, gv_590_4, gv_590_5, pe, tg_12_12, tg_12_13, tg_12_14, tg_12_4, tg_12_5, zfit, zisI, sh_590, sh_596, ho, l0, l1])
  all_goals repeat' (with_reducible (first | (refine And.intro ?_ ?_) | intro _))
  all_goals try (refine Ca_use (ca_X12_here _ (by (try simp [pup_app]); omega) (by (try simp [pup_app]); omega)) (by omega) ?_; rintro _ _ ⟨rfl, rfl, hx⟩; simp (maxDischargeDepth := 12) [wB, wI, k1, kI, kR, kL, k2, pget, parg, ppush, pcat, zw_lit, zw_m1, zw_m2, zw_m3, zNC_eq, zrow, pup_app, pget_pss, pget_psx, nlg_some, nlg_none, gv_590_12, gv_590_13, gv_590_14, gv_590_4, gv_590_5, pe, tg_12_12, tg_12_13, tg_12_14, tg_12_4, tg_12_5, zfit, zisI, sh_590, sh_596, ho, l0, l1])
  all_goals repeat' (with_reducible (first | (refine And.intro ?_ ?_) | intro _))
  all_goals try (refine tr_lab (D := 2) (t := 112) vb_X12_goesOn_112 _ ve_X12_goesOn_112 ?_; simp (maxDischargeDepth := 12) [vb_X12_goesOn_112, wB, wI, k1, kI, kR, kL, k2, pget, parg, ppush, pcat, zw_lit, zw_m1, zw_m2, zw_m3, zNC_eq, zrow, pup_app, pget_pss, pget_psx, nlg_some, nlg_none, gv_590_12, gv_590_13, gv_590_14, gv_590_4, gv_590_5, pe, tg_12_12, tg_12_13, tg_12_14, tg_12_4, tg_12_5, zfit, zisI, sh_590, sh_596, ho, l0, l1])
  all_goals repeat' (with_reducible (first | (refine And.intro ?_ ?_) | intro _))
  all_goals try (refine Ca_use (ca_X12_here _ (by (try simp [pup_app]); omega) (by (try simp [pup_app]); omega)) (by omega) ?_; rintro _ _ ⟨rfl, rfl, hx⟩; simp (maxDischargeDepth := 12) [wB, wI, k1, kI, kR, kL, k2, pget, parg, ppush, pcat, zw_lit, zw_m1, zw_m2, zw_m3, zNC_eq, zrow, pup_app, pget_pss, pget_psx, nlg_some, nlg_none, gv_590_12, gv_590_13, gv_590_14, gv_590_4, gv_590_5, pe, tg_12_12, tg_12_13, tg_12_14, tg_12_4, tg_12_5, zfit, zisI, sh_590, sh_596, ho, l0, l1])
  all_goals repeat' (with_reducible (first | (refine And.intro ?_ ?_) | intro _))
  all_goals try ((refine sg_X12_goesOn_134 H0 O ihx o o0 o8 hoO _ _ ?_ ?_ ?_ ?_ ?_ ?_ ?_ ?_) <;> (try simp (maxDischargeDepth := 12) [pget_pss, pget_psx, nlg_some, nlg_none, pget, pup_app, l0, l1, ho]))
  all_goals (first | omega | assumption | (exact Or.inl ⟨rfl, _, hL.2.2.1⟩) | (exact Or.inl ⟨rfl, _, LN_at hL.2.2.1 (by omega)⟩) | (exact ⟨_, hL.2.2.1⟩) | (exact ⟨_, LN_at hL.2.2.1 (by omega)⟩) | ((repeat (first | assumption | exact frm_refl _ _ | (refine wa_595 ?_ (by omega) (by first | omega | exact zw_lo _ | exact zw_hi _) (by first | omega | exact zw_lo _ | exact zw_hi _)) | (refine wa_596 ?_ (by omega) (by first | omega | exact zw_lo _ | exact zw_hi _) (by first | omega | exact zw_lo _ | exact zw_hi _)) | (refine wa_597 ?_ (by omega) (by first | omega | exact zw_lo _ | exact zw_hi _) (by first | omega | exact zw_lo _ | exact zw_hi _)) | (refine wf_590_5 ?_ (by omega) (by omega)) | (refine wf_590_6 ?_ (by omega) (by omega)) | (refine wf_590_10 ?_ (by omega) (by omega)) | (refine wf_590_11 ?_ (by omega) (by omega)) | (refine wf_590_14 ?_ (by omega) (by omega)) | (refine fa_595 ?_ rfl) | (refine fa_596 ?_ rfl) | (refine fa_597 ?_ rfl) | (refine ff_590_5 ?_ rfl) | (refine ff_590_6 ?_ rfl) | (refine ff_590_10 ?_ rfl) | (refine ff_590_11 ?_ rfl) | (refine ff_590_14 ?_ rfl))); done) | ((repeat (first | assumption | (refine LSt_at ?_ (by omega)) | (refine LN_at ?_ (by omega)))); done) | (exact Or.inr ⟨rfl, LSt_at (hset _ (by omega) (by omega)) (by omega)⟩) | (exact LSt_at (hset _ (by omega) (by omega)) (by omega)) | (rw [zw_lit (by omega) (by omega)]; first | exact Or.inr ⟨rfl, LSt_at (hset _ (by omega) (by omega)) (by omega)⟩ | exact LSt_at (hset _ (by omega) (by omega)) (by omega)) | (rw [zw_lit (by omega) (by omega)]; (repeat (first | assumption | exact frm_refl _ _ | (refine wa_595 ?_ (by omega) (by first | omega | exact zw_lo _ | exact zw_hi _) (by first | omega | exact zw_lo _ | exact zw_hi _)) | (refine wa_596 ?_ (by omega) (by first | omega | exact zw_lo _ | exact zw_hi _) (by first | omega | exact zw_lo _ | exact zw_hi _)) | (refine wa_597 ?_ (by omega) (by first | omega | exact zw_lo _ | exact zw_hi _) (by first | omega | exact zw_lo _ | exact zw_hi _)) | (refine wf_590_5 ?_ (by omega) (by omega)) | (refine wf_590_6 ?_ (by omega) (by omega)) | (refine wf_590_10 ?_ (by omega) (by omega)) | (refine wf_590_11 ?_ (by omega) (by omega)) | (refine wf_590_14 ?_ (by omega) (by omega)) | (refine fa_595 ?_ rfl) | (refine fa_596 ?_ rfl) | (refine fa_597 ?_ rfl) | (refine ff_590_5 ?_ rfl) | (refine ff_590_6 ?_ rfl) | (refine ff_590_10 ?_ rfl) | (refine ff_590_11 ?_ rfl) | (refine ff_590_14 ?_ rfl))); done) | decide | skip)

set_option maxRecDepth 20000 in
set_option maxHeartbeats 4000000 in
theorem sg_X12_goesOn_64 {G : zG} {us : Nat} {g : Nat → Nat → Int} (H0 : PH) (O : Int) (ihx : ∀ (ls : PL) (H : PH), H 590 14 < O → pget ls 0 = some (2, 590) → WT 2 g H → frm [80, 81, 82, 6012, 7012, 11012, 15012] H0 H → LSt H 1 0 → Tr G us kd_X12_goesOn 3 (zget kd_X12_goesOn 0) 0 ls [] H (fun r H' => WT 2 g H' ∧ frm [80, 81, 82, 6012, 7012, 11012, 15012] H0 H' ∧ ((r = some (0, 0) ∧ ∃ d, LN H' d) ∨ (r = some (0, 1) ∧ LSt H' 0 0)))) (o : Int) (o0 : 0 ≤ o) (o8 : o ≤ 8) (hoO : o = O)  : ∀ (ls : PL) (H : PH), pget ls 0 = some (2, 590) → pget ls 1 = some (0, o) → WT 2 g H → frm [80, 81, 82, 6012, 7012, 11012, 15012] H0 H → H 590 14 = o → LSt H 1 0 → H 597 o = 0 → Tr G us kd_X12_goesOn 3 (zget kd_X12_goesOn 64) 64 ls [] H (fun r H' => WT 2 g H' ∧ frm [80, 81, 82, 6012, 7012, 11012, 15012] H0 H' ∧ ((r = some (0, 0) ∧ ∃ d, LN H' d) ∨ (r = some (0, 1) ∧ LSt H' 0 0))) := by
  intro ls H  l0 l1 hW hF ho hL hp
  have h5 := rf_590_5 hW
  have h4 := rf_590_4 hW
  have z5 : H 590 5 < H 590 4 → zw (H 590 5 + 1) = H 590 5 + 1 := fun _ => zw_lit (by omega) (by omega)
  have hn := LSt_n hL (by omega) (by omega)
  have hb := hL.2.1 o o0 (by omega)
  have zn : zw (11000 + H 596 o) = 11000 + H 596 o := zw_lit (by omega) (by omega)
  have h0 : H 596 o = 0 → LSt (pup H 596 o 0) 1 0 := fun q => by
    have := LSt_596 (v := 0) (e' := 1) hL (by omega) (by omega) (by rw [ho, q]; rfl)
    rw [ho] at this
    exact this
  have h1 : H 596 o ≠ 0 → LSt (pup (pup (pup H 595 (H 590 10) (11000 + H 596 o)) 590 10 (H 590 10 + 1)) 596 o 0) 1 0 := fun q => by
    have h2 := LSt_op (x := 11000 + H 596 o) hL (by omega) (PCH_1 hL (Or.inr (by rw [ho]; exact q)))
    have e14 : pup (pup H 595 (H 590 10) (11000 + H 596 o)) 590 10 (H 590 10 + 1) 590 14 = o := ho
    have e6 : pup (pup H 595 (H 590 10) (11000 + H 596 o)) 590 10 (H 590 10 + 1) 596 o = H 596 o := by rw [pup_row (by decide), pup_row (by decide)]
    have := LSt_596 (v := 0) (e' := 1) h2 (by omega) (by omega) (by rw [e14, e6, sg1_1 q, sg1_0]; rfl)
    rw [e14] at this
    exact this
  refine tr_lab (D := 2) (t := 64) vb_X12_goesOn_64 _ ve_X12_goesOn_64 ?_
  simp (maxDischargeDepth := 12) [vb_X12_goesOn_64, wB, wI, k1, kI, kR, kL, k2, pget, parg, ppush, pcat, zw_lit, zw_m1, zw_m2, zw_m3, zNC_eq, zrow, pup_app, pget_pss, pget_psx, nlg_some, nlg_none, gv_590_12, gv_590_13, gv_590_14, gv_590_4, gv_590_5, pe, tg_12_12, tg_12_13, tg_12_14, tg_12_4, tg_12_5, zfit, zisI, sh_590, sh_596, ho, zn, l0, l1]
  repeat' (with_reducible (first | (refine And.intro ?_ ?_) | intro _))
  all_goals try (refine Ca_use (ca_X12_does _ _ (by (try simp [pup_app]); omega) (by (try simp [pup_app]); omega)) (by omega) ?_; rintro _ _ ⟨rfl, rfl⟩; simp (maxDischargeDepth := 12) [wB, wI, k1, kI, kR, kL, k2, pget, parg, ppush, pcat, zw_lit, zw_m1, zw_m2, zw_m3, zNC_eq, zrow, pup_app, pget_pss, pget_psx, nlg_some, nlg_none, gv_590_12, gv_590_13, gv_590_14, gv_590_4, gv_590_5, pe, tg_12_12, tg_12_13, tg_12_14, tg_12_4, tg_12_5, zfit, zisI, sh_590, sh_596, ho, zn, l0, l1])
  all_goals repeat' (with_reducible (first | (refine And.intro ?_ ?_) | intro _))
  all_goals try ((refine sg_X12_goesOn_87 H0 O ihx o o0 o8 hoO _ _ ?_ ?_ ?_ ?_ ?_ ?_ ?_) <;> (try simp (maxDischargeDepth := 12) [pget_pss, pget_psx, nlg_some, nlg_none, pget, pup_app, l0, l1, ho]))
  all_goals (first | omega | assumption | (exact Or.inl ⟨rfl, _, hL.2.2.1⟩) | (exact Or.inl ⟨rfl, _, LN_at hL.2.2.1 (by omega)⟩) | (exact ⟨_, hL.2.2.1⟩) | (exact ⟨_, LN_at hL.2.2.1 (by omega)⟩) | ((repeat (first | assumption | exact frm_refl _ _ | (refine wa_595 ?_ (by omega) (by first | omega | exact zw_lo _ | exact zw_hi _) (by first | omega | exact zw_lo _ | exact zw_hi _)) | (refine wa_596 ?_ (by omega) (by first | omega | exact zw_lo _ | exact zw_hi _) (by first | omega | exact zw_lo _ | exact zw_hi _)) | (refine wa_597 ?_ (by omega) (by first | omega | exact zw_lo _ | exact zw_hi _) (by first | omega | exact zw_lo _ | exact zw_hi _)) | (refine wf_590_5 ?_ (by omega) (by omega)) | (refine wf_590_6 ?_ (by omega) (by omega)) | (refine wf_590_10 ?_ (by omega) (by omega)) | (refine wf_590_11 ?_ (by omega) (by omega)) | (refine wf_590_14 ?_ (by omega) (by omega)) | (refine fa_595 ?_ rfl) | (refine fa_596 ?_ rfl) | (refine fa_597 ?_ rfl) | (refine ff_590_5 ?_ rfl) | (refine ff_590_6 ?_ rfl) | (refine ff_590_10 ?_ rfl) | (refine ff_590_11 ?_ rfl) | (refine ff_590_14 ?_ rfl))); done) | ((repeat (first | assumption | (refine LSt_at ?_ (by omega)) | (refine LN_at ?_ (by omega)))); done) | (exact h0 (by assumption)) | (exact h1 (by assumption)) | (rw [pup_row (by decide), pup_row (by decide)]; assumption) | decide | skip)

set_option maxRecDepth 20000 in
set_option maxHeartbeats 4000000 in
theorem sg_X12_goesOn_28 {G : zG} {us : Nat} {g : Nat → Nat → Int} (H0 : PH) (O : Int) (ihx : ∀ (ls : PL) (H : PH), H 590 14 < O → pget ls 0 = some (2, 590) → WT 2 g H → frm [80, 81, 82, 6012, 7012, 11012, 15012] H0 H → LSt H 1 0 → Tr G us kd_X12_goesOn 3 (zget kd_X12_goesOn 0) 0 ls [] H (fun r H' => WT 2 g H' ∧ frm [80, 81, 82, 6012, 7012, 11012, 15012] H0 H' ∧ ((r = some (0, 0) ∧ ∃ d, LN H' d) ∨ (r = some (0, 1) ∧ LSt H' 0 0)))) (o : Int) (o0 : 0 ≤ o) (o8 : o ≤ 8) (hoO : o = O)  : ∀ (ls : PL) (H : PH), pget ls 0 = some (2, 590) → pget ls 1 = some (0, o) → WT 2 g H → frm [80, 81, 82, 6012, 7012, 11012, 15012] H0 H → H 590 14 = o → LSt (pup H 597 o 0) 1 0 → Tr G us kd_X12_goesOn 3 (zget kd_X12_goesOn 28) 28 ls [] H (fun r H' => WT 2 g H' ∧ frm [80, 81, 82, 6012, 7012, 11012, 15012] H0 H' ∧ ((r = some (0, 0) ∧ ∃ d, LN H' d) ∨ (r = some (0, 1) ∧ LSt H' 0 0))) := by
  intro ls H  l0 l1 hW hF ho hL
  have h5 := rf_590_5 hW
  have h4 := rf_590_4 hW
  have z5 : H 590 5 < H 590 4 → zw (H 590 5 + 1) = H 590 5 + 1 := fun _ => zw_lit (by omega) (by omega)
  have e14 : pup H 597 o 0 590 14 = o := ho
  have eo : pup H 597 o 0 597 o = 0 := if_pos ⟨rfl, rfl⟩
  have p5 : pup H 597 o 0 590 5 = H 590 5 := rfl
  have p4 : pup H 597 o 0 590 4 = H 590 4 := rfl
  have hset : ∀ v : Int, 1 ≤ v → v ≤ 255 → LSt (pup (pup H 597 o 0) 597 o v) 0 0 := fun v v0 v1 => by
    have := LSt_597 (v := v) (e' := 0) hL (by omega) v1 (by rw [e14, eo, sg1_0, sg1_1 (by omega)]; rfl)
    rw [e14] at this
    exact this
  refine tr_lab (D := 2) (t := 28) vb_X12_goesOn_28 _ ve_X12_goesOn_28 ?_
  simp (maxDischargeDepth := 12) [vb_X12_goesOn_28, wB, wI, k1, kI, kR, kL, k2, pget, parg, ppush, pcat, zw_lit, zw_m1, zw_m2, zw_m3, zNC_eq, zrow, pup_app, pget_pss, pget_psx, nlg_some, nlg_none, gv_590_12, gv_590_13, gv_590_14, gv_590_4, gv_590_5, pe, tg_12_12, tg_12_13, tg_12_14, tg_12_4, tg_12_5, zfit, zisI, sh_590, sh_597, ho, l0, l1]
  repeat' (with_reducible (first | (refine And.intro ?_ ?_) | intro _))
  all_goals try (refine Ca_use (ca_isPS _ (by (try simp [pup_app]); omega) (by (try simp [pup_app]); omega)) (by omega) ?_; rintro _ _ ⟨rfl, (rfl | ⟨rfl, hq1, hq2, hq3⟩)⟩; simp (maxDischargeDepth := 12) [wB, wI, k1, kI, kR, kL, k2, pget, parg, ppush, pcat, zw_lit, zw_m1, zw_m2, zw_m3, zNC_eq, zrow, pup_app, pget_pss, pget_psx, nlg_some, nlg_none, gv_590_12, gv_590_13, gv_590_14, gv_590_4, gv_590_5, pe, tg_12_12, tg_12_13, tg_12_14, tg_12_4, tg_12_5, zfit, zisI, sh_590, sh_597, ho, l0, l1])
  all_goals repeat' (with_reducible (first | (refine And.intro ?_ ?_) | intro _))
  all_goals try (refine Ca_use (ca_X12_here _ (by (try simp [pup_app]); omega) (by (try simp [pup_app]); omega)) (by omega) ?_; rintro _ _ ⟨rfl, rfl, hx⟩; simp (maxDischargeDepth := 12) [wB, wI, k1, kI, kR, kL, k2, pget, parg, ppush, pcat, zw_lit, zw_m1, zw_m2, zw_m3, zNC_eq, zrow, pup_app, pget_pss, pget_psx, nlg_some, nlg_none, gv_590_12, gv_590_13, gv_590_14, gv_590_4, gv_590_5, pe, tg_12_12, tg_12_13, tg_12_14, tg_12_4, tg_12_5, zfit, zisI, sh_590, sh_597, ho, l0, l1])
  all_goals repeat' (with_reducible (first | (refine And.intro ?_ ?_) | intro _))
  all_goals try ((refine sg_X12_goesOn_64 H0 O ihx o o0 o8 hoO _ _ ?_ ?_ ?_ ?_ ?_ ?_ ?_) <;> (try simp (maxDischargeDepth := 12) [pget_pss, pget_psx, nlg_some, nlg_none, pget, pup_app, l0, l1, ho]))
  all_goals (first | omega | assumption | (exact Or.inl ⟨rfl, _, hL.2.2.1⟩) | (exact Or.inl ⟨rfl, _, LN_at hL.2.2.1 (by omega)⟩) | (exact ⟨_, hL.2.2.1⟩) | (exact ⟨_, LN_at hL.2.2.1 (by omega)⟩) | ((repeat (first | assumption | exact frm_refl _ _ | (refine wa_595 ?_ (by omega) (by first | omega | exact zw_lo _ | exact zw_hi _) (by first | omega | exact zw_lo _ | exact zw_hi _)) | (refine wa_596 ?_ (by omega) (by first | omega | exact zw_lo _ | exact zw_hi _) (by first | omega | exact zw_lo _ | exact zw_hi _)) | (refine wa_597 ?_ (by omega) (by first | omega | exact zw_lo _ | exact zw_hi _) (by first | omega | exact zw_lo _ | exact zw_hi _)) | (refine wf_590_5 ?_ (by omega) (by omega)) | (refine wf_590_6 ?_ (by omega) (by omega)) | (refine wf_590_10 ?_ (by omega) (by omega)) | (refine wf_590_11 ?_ (by omega) (by omega)) | (refine wf_590_14 ?_ (by omega) (by omega)) | (refine fa_595 ?_ rfl) | (refine fa_596 ?_ rfl) | (refine fa_597 ?_ rfl) | (refine ff_590_5 ?_ rfl) | (refine ff_590_6 ?_ rfl) | (refine ff_590_10 ?_ rfl) | (refine ff_590_11 ?_ rfl) | (refine ff_590_14 ?_ rfl))); done) | ((repeat (first | assumption | (refine LSt_at ?_ (by omega)) | (refine LN_at ?_ (by omega)))); done) | (exact Or.inr ⟨rfl, LSt_at (hset _ (by omega) (by omega)) (by omega)⟩) | (exact LSt_at (hset _ (by omega) (by omega)) (by omega)) | (rw [zw_lit (by omega) (by omega)]; first | exact Or.inr ⟨rfl, LSt_at (hset _ (by omega) (by omega)) (by omega)⟩ | exact LSt_at (hset _ (by omega) (by omega)) (by omega)) | (rw [zw_lit (by omega) (by omega)]; (repeat (first | assumption | exact frm_refl _ _ | (refine wa_595 ?_ (by omega) (by first | omega | exact zw_lo _ | exact zw_hi _) (by first | omega | exact zw_lo _ | exact zw_hi _)) | (refine wa_596 ?_ (by omega) (by first | omega | exact zw_lo _ | exact zw_hi _) (by first | omega | exact zw_lo _ | exact zw_hi _)) | (refine wa_597 ?_ (by omega) (by first | omega | exact zw_lo _ | exact zw_hi _) (by first | omega | exact zw_lo _ | exact zw_hi _)) | (refine wf_590_5 ?_ (by omega) (by omega)) | (refine wf_590_6 ?_ (by omega) (by omega)) | (refine wf_590_10 ?_ (by omega) (by omega)) | (refine wf_590_11 ?_ (by omega) (by omega)) | (refine wf_590_14 ?_ (by omega) (by omega)) | (refine fa_595 ?_ rfl) | (refine fa_596 ?_ rfl) | (refine fa_597 ?_ rfl) | (refine ff_590_5 ?_ rfl) | (refine ff_590_6 ?_ rfl) | (refine ff_590_10 ?_ rfl) | (refine ff_590_11 ?_ rfl) | (refine ff_590_14 ?_ rfl))); done) | decide | skip)

set_option maxRecDepth 20000 in
set_option maxHeartbeats 4000000 in
theorem sg_X12_goesOn_0 {G : zG} {us : Nat} {g : Nat → Nat → Int} (H0 H : PH) (ihx : ∀ (ls : PL) (H1 : PH), H1 590 14 < H 590 14 → pget ls 0 = some (2, 590) → WT 2 g H1 → frm [80, 81, 82, 6012, 7012, 11012, 15012] H0 H1 → LSt H1 1 0 → Tr G us kd_X12_goesOn 3 (zget kd_X12_goesOn 0) 0 ls [] H1 (fun r H' => WT 2 g H' ∧ frm [80, 81, 82, 6012, 7012, 11012, 15012] H0 H' ∧ ((r = some (0, 0) ∧ ∃ d, LN H' d) ∨ (r = some (0, 1) ∧ LSt H' 0 0))))  : ∀ (ls : PL) , pget ls 0 = some (2, 590) → WT 2 g H → frm [80, 81, 82, 6012, 7012, 11012, 15012] H0 H → LSt H 1 0 → Tr G us kd_X12_goesOn 3 (zget kd_X12_goesOn 0) 0 ls [] H (fun r H' => WT 2 g H' ∧ frm [80, 81, 82, 6012, 7012, 11012, 15012] H0 H' ∧ ((r = some (0, 0) ∧ ∃ d, LN H' d) ∨ (r = some (0, 1) ∧ LSt H' 0 0))) := by
  intro ls   l0 hW hF hL
  have ho := hL.1
  have hn := LSt_n hL (by omega) (by omega)
  have hb := hL.2.1 (H 590 14) (by omega) (by omega)
  have zn : zw (11000 + H 597 (H 590 14)) = 11000 + H 597 (H 590 14) := zw_lit (by omega) (by omega)
  have h0 : H 597 (H 590 14) = 0 → LSt (pup H 597 (H 590 14) 0) 1 0 := fun q => LSt_597 (v := 0) (e' := 1) hL (by omega) (by omega) (by rw [q]; rfl)
  have h1 : H 597 (H 590 14) ≠ 0 → LSt (pup (pup (pup H 595 (H 590 10) (11000 + H 597 (H 590 14))) 590 10 (H 590 10 + 1)) 597 (H 590 14) 0) 1 0 := fun q => by
    have h2 := LSt_op (x := 11000 + H 597 (H 590 14)) hL (by omega) (PCH_1 hL (Or.inl q))
    have e14 : pup (pup H 595 (H 590 10) (11000 + H 597 (H 590 14))) 590 10 (H 590 10 + 1) 590 14 = H 590 14 := rfl
    have e7 : pup (pup H 595 (H 590 10) (11000 + H 597 (H 590 14))) 590 10 (H 590 10 + 1) 597 (H 590 14) = H 597 (H 590 14) := by rw [pup_row (by decide), pup_row (by decide)]
    have := LSt_597 (v := 0) (e' := 1) h2 (by omega) (by omega) (by rw [e14, e7, sg1_1 q, sg1_0]; rfl)
    rw [e14] at this
    exact this
  refine tr_lab (D := 2) (t := 0) vb_X12_goesOn_0 _ ve_X12_goesOn_0 ?_
  simp (maxDischargeDepth := 12) [vb_X12_goesOn_0, wB, wI, k1, kI, kR, kL, k2, pget, parg, ppush, pcat, zw_lit, zw_m1, zw_m2, zw_m3, zNC_eq, zrow, pup_app, pget_pss, pget_psx, nlg_some, nlg_none, gv_590_12, gv_590_13, gv_590_14, gv_590_4, gv_590_5, pe, tg_12_12, tg_12_13, tg_12_14, tg_12_4, tg_12_5, zfit, zisI, sh_590, sh_597, zn, l0]
  repeat' (with_reducible (first | (refine And.intro ?_ ?_) | intro _))
  all_goals try (refine Ca_use (ca_X12_does _ _ (by (try simp [pup_app]); omega) (by (try simp [pup_app]); omega)) (by omega) ?_; rintro _ _ ⟨rfl, rfl⟩; simp (maxDischargeDepth := 12) [wB, wI, k1, kI, kR, kL, k2, pget, parg, ppush, pcat, zw_lit, zw_m1, zw_m2, zw_m3, zNC_eq, zrow, pup_app, pget_pss, pget_psx, nlg_some, nlg_none, gv_590_12, gv_590_13, gv_590_14, gv_590_4, gv_590_5, pe, tg_12_12, tg_12_13, tg_12_14, tg_12_4, tg_12_5, zfit, zisI, sh_590, sh_597, zn, l0])
  all_goals repeat' (with_reducible (first | (refine And.intro ?_ ?_) | intro _))
  all_goals try ((refine sg_X12_goesOn_28 H0 (H 590 14) ihx (H 590 14) (by omega) (by omega) rfl _ _ ?_ ?_ ?_ ?_ ?_ ?_) <;> (try simp (maxDischargeDepth := 12) [pget_pss, pget_psx, nlg_some, nlg_none, pget, pup_app, l0]))
  all_goals (first | omega | assumption | (exact Or.inl ⟨rfl, _, hL.2.2.1⟩) | (exact Or.inl ⟨rfl, _, LN_at hL.2.2.1 (by omega)⟩) | (exact ⟨_, hL.2.2.1⟩) | (exact ⟨_, LN_at hL.2.2.1 (by omega)⟩) | ((repeat (first | assumption | exact frm_refl _ _ | (refine wa_595 ?_ (by omega) (by first | omega | exact zw_lo _ | exact zw_hi _) (by first | omega | exact zw_lo _ | exact zw_hi _)) | (refine wa_596 ?_ (by omega) (by first | omega | exact zw_lo _ | exact zw_hi _) (by first | omega | exact zw_lo _ | exact zw_hi _)) | (refine wa_597 ?_ (by omega) (by first | omega | exact zw_lo _ | exact zw_hi _) (by first | omega | exact zw_lo _ | exact zw_hi _)) | (refine wf_590_5 ?_ (by omega) (by omega)) | (refine wf_590_6 ?_ (by omega) (by omega)) | (refine wf_590_10 ?_ (by omega) (by omega)) | (refine wf_590_11 ?_ (by omega) (by omega)) | (refine wf_590_14 ?_ (by omega) (by omega)) | (refine fa_595 ?_ rfl) | (refine fa_596 ?_ rfl) | (refine fa_597 ?_ rfl) | (refine ff_590_5 ?_ rfl) | (refine ff_590_6 ?_ rfl) | (refine ff_590_10 ?_ rfl) | (refine ff_590_11 ?_ rfl) | (refine ff_590_14 ?_ rfl))); done) | ((repeat (first | assumption | (refine LSt_at ?_ (by omega)) | (refine LN_at ?_ (by omega)))); done) | (exact h0 (by assumption)) | (exact h1 (by assumption)) | decide | skip)

theorem goes_0 {G : zG} {us : Nat} {g : Nat → Nat → Int} (H0 : PH) : ∀ (n : Nat) (ls : PL) (H : PH), H 590 14 < n → pget ls 0 = some (2, 590) → WT 2 g H → frm [80, 81, 82, 6012, 7012, 11012, 15012] H0 H → LSt H 1 0 → Tr G us kd_X12_goesOn 3 (zget kd_X12_goesOn 0) 0 ls [] H (fun r H' => WT 2 g H' ∧ frm [80, 81, 82, 6012, 7012, 11012, 15012] H0 H' ∧ ((r = some (0, 0) ∧ ∃ d, LN H' d) ∨ (r = some (0, 1) ∧ LSt H' 0 0))) := by
  intro n
  induction n with
  | zero =>
    intro ls H hn l0 hW hF hL
    have := hL.1
    omega
  | succ n ih =>
    intro ls H hn l0 hW hF hL
    exact sg_X12_goesOn_0 H0 H (fun ls H1 h => ih ls H1 (by omega)) ls l0 hW hF hL
theorem ca_X12_goesOn {G : zG} {us : Nat} {g : Nat → Nat → Int} (H : PH) (hW : WT 2 g H) (hL : LSt H 1 0) : Ca G us 3 187 [(2, 590)] H (fun r H' => WT 2 g H' ∧ frm [80, 81, 82, 6012, 7012, 11012, 15012] H H' ∧ ((r = some (0, 0) ∧ ∃ d, LN H' d) ∨ (r = some (0, 1) ∧ LSt H' 0 0))) := by
  refine ⟨_, _, _, _, _, _, vm_X12_goesOn, by simp [pcat], ?_⟩
  exact goes_0 H 9 _ H (by have := hL.1; omega) rfl hW (frm_refl _ _) hL

