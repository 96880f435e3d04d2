/-! ===== the model's deeds ===== -/
theorem IM_wr {H : PH} {k v : Int} (h : IM H) (hk : k < 10 ∨ 76 ≤ k) : IM (pup H 591 k v) := by
  refine ⟨lwf_congr (f := fun k : Nat => H 591 k) (fun j a b => ?_) h.1, fun d d0 d1 => ?_⟩
  · exact if_neg (fun q => by have := q.2; omega)
  · have : pup H 591 k v 590 2 = H 590 2 := rfl
    rw [this] at d1
    rw [pup_row (by decide)]
    exact h.2 d d0 d1
theorem aT_bill0 : ∀ b, b < 12 → ∀ r, r < 26 → (bif (Nat.beq r 11 || Nat.beq r 12 || Nat.ble 14 r) then veq (allT (92 + 26 * b + r)) vtop else true) = true := by decide +kernel
theorem aT_bill (b : Nat) (hb : b < 12) (r : Nat) (hr : r < 26) (h : r = 11 ∨ r = 12 ∨ 14 ≤ r) : allT (92 + 26 * b + r) = vtop := by
  have q := aT_bill0 b hb r hr
  have c : (Nat.beq r 11 || Nat.beq r 12 || Nat.ble 14 r) = true := by
    rcases h with h | h | h
    · rw [h]
      rfl
    · rw [h]
      rfl
    · rw [Nat.ble_eq_true_of_le h, Bool.or_true]
  rw [c] at q
  exact veq_ok q
theorem aT_rem : ∀ b, b < 12 → allT (92 + 26 * b + 13) = (0, 0, 6, 1) := by decide +kernel
theorem aT_line : ∀ i, i < 1112 → 404 ≤ i → allT (i + 12) = allT i := by decide +kernel
theorem av_top {k v : Int} (e : allT k.toNat = vtop) (h1 : -2147483648 ≤ v) (h2 : v ≤ 2147483647) : aval (allT k.toNat) ((allT k.toNat).1, v) := by
  rw [e]
  exact vin h1 h2
theorem av_bill {b r v : Int} (b0 : 0 ≤ b) (b1 : b ≤ 11) (r0 : 0 ≤ r) (r1 : r < 26) (hr : r = 11 ∨ r = 12 ∨ 14 ≤ r) (h1 : -2147483648 ≤ v) (h2 : v ≤ 2147483647) : aval (allT (92 + 26 * b + r).toNat) ((allT (92 + 26 * b + r).toNat).1, v) := by
  refine av_top ?_ h1 h2
  have := aT_bill b.toNat (by omega) r.toNat (by omega) (by omega)
  rw [show (92 + 26 * b + r).toNat = 92 + 26 * b.toNat + r.toNat by omega]
  exact this
theorem av_rem {b v : Int} (b0 : 0 ≤ b) (b1 : b ≤ 11) (h1 : 0 ≤ v) (h2 : v ≤ 6) : aval (allT (92 + 26 * b + 13).toNat) ((allT (92 + 26 * b + 13).toNat).1, v) := by
  have := aT_rem b.toNat (by omega)
  rw [show (92 + 26 * b + 13).toNat = 92 + 26 * b.toNat + 13 by omega, this]
  exact vin h1 h2
theorem rd_rem {lv : Nat} {g : Nat → Nat → Int} {H : PH} {b : Int} (hW : WT lv g H) (b0 : 0 ≤ b) (b1 : b ≤ 11) : 0 ≤ H 591 (92 + 26 * b + 13) ∧ H 591 (92 + 26 * b + 13) ≤ 6 := by
  have h := (WT_row hW (k := 92 + 26 * b + 13) (by omega) (by omega)).1
  have := aT_rem b.toNat (by omega)
  rw [show (92 + 26 * b + 13).toNat = 92 + 26 * b.toNat + 13 by omega, this] at h
  exact ⟨(h.2.1 rfl).1, (h.2.1 rfl).2.1⟩
theorem rd_0 {lv : Nat} {g : Nat → Nat → Int} {H : PH} (hW : WT lv g H) : 0 ≤ H 591 0 ∧ H 591 0 ≤ 12 := by
  have h := (WT_row hW (k := 0) (by omega) (by omega)).1
  exact ⟨(h.2.1 rfl).1, (h.2.1 rfl).2.1⟩
theorem rd_2 {lv : Nat} {g : Nat → Nat → Int} {H : PH} (hW : WT lv g H) : 0 ≤ H 591 2 ∧ H 591 2 ≤ 60 := by
  have h := (WT_row hW (k := 2) (by omega) (by omega)).1
  exact ⟨(h.2.1 rfl).1, (h.2.1 rfl).2.1⟩
theorem f591 {H H' : PH} (h : frm [33, 3012] H H') : H' 591 = H 591 := funext fun j => by
  have e := h 591 j (by decide) rfl
  have e1 : ∀ X : PH, gv X ((591 : Nat) : Int) j = X 591 j := fun X => gv_591 j
  rw [e1, e1] at e
  exact e
theorem ca_deed' {G : zG} {us : Nat} {g : Nat → Nat → Int} (H : PH) (hW : WT 2 g H) (hM : IM H) : Ca G us 1 158 [(2, 590)] H (fun r H' => r = none ∧ WT 2 g H' ∧ (∀ X : PH, frm [32, 33, 3012] X H → frm [32, 33, 3012] X H') ∧ IM H' ∧ H' 591 = H 591) :=
  Ca_mono (Nat.le_refl _) (fun r H' q => ⟨q.1, q.2.1, fun X hX => frm_trans hX (frm_sub rfl q.2.2.1), q.2.2.2, f591 q.2.2.1⟩) (ca_X12_deed H hW hM)

set_option maxRecDepth 20000 in
set_option maxHeartbeats 4000000 in
theorem ca_X12_become {G : zG} {us : Nat} {g : Nat → Nat → Int} (k v : Int) (H : PH) (hW : WT 2 g H) (hM : IM H) (kk0 : 0 ≤ k) (kk1 : k < 1124) (hk : k < 10 ∨ 76 ≤ k) (hv : aval (allT k.toNat) ((allT k.toNat).1, v)) : Ca G us 2 228 [(2, 590), (0, k), (0, v)] H (fun r H' => (∃ x, r = some (0, x)) ∧ WT 2 g H' ∧ frm [32, 33, 3012] H H' ∧ IM H') := by
  refine ⟨_, _, _, _, _, _, vm_X12_become, by simp [pcat], ?_⟩
  refine tr_lab (D := 1) (t := 0) vb_X12_become_0 _ ve_X12_become_0 ?_
  simp (maxDischargeDepth := 12) [vb_X12_become_0, wB, wI, k1, kI, kR, kL, k2, pget, parg, ppush, pcat, zw_lit, zw_m1, zw_m2, zw_m3, zNC_eq, zrow, pup_app, pget_pss, pget_psx, nlg_some, nlg_none, gv_590_0, tg_12_0, sh_590, sh_591]
  repeat' (with_reducible (first | (refine And.intro ?_ ?_) | intro _))
  all_goals try (refine Ca_use (ca_deed' _ (by assumption) (by assumption)) (by omega) ?_; rintro _ _ ⟨rfl, hW2, hF2, hM2, e2⟩; simp (maxDischargeDepth := 12) [wB, wI, k1, kI, kR, kL, k2, pget, parg, ppush, pcat, zw_lit, zw_m1, zw_m2, zw_m3, zNC_eq, zrow, pup_app, pget_pss, pget_psx, nlg_some, nlg_none, gv_590_0, tg_12_0, sh_590, sh_591])
  all_goals repeat' (with_reducible (first | (refine And.intro ?_ ?_) | intro _))
  all_goals (first | omega | assumption | exact frm_refl _ _ | (exact ⟨_, rfl⟩) | ((repeat (first | assumption | exact frm_refl _ _ | (exact ⟨_, rfl⟩) | (refine WT_wr ?_ (by omega) (by omega) (by first | assumption | (exact av_top rfl (by first | omega | exact zw_lo _ | exact zw_hi _) (by first | omega | exact zw_lo _ | exact zw_hi _)) | (exact av_bill (by omega) (by omega) (by omega) (by omega) (by omega) (by first | omega | exact zw_lo _ | exact zw_hi _) (by first | omega | exact zw_lo _ | exact zw_hi _)) | (exact av_rem (by omega) (by omega) (by omega) (by omega)) | (exact vin (by omega) (by omega)))) | (refine fa_591 ?_ rfl) | (refine hF2 _ ?_) | (refine IM_wr ?_ (by omega)))); done) | skip)

set_option maxRecDepth 20000 in
set_option maxHeartbeats 4000000 in
theorem ca_X12_limit {G : zG} {us : Nat} {g : Nat → Nat → Int} (n : Int) (H : PH) (hW : WT 2 g H) (hM : IM H) : Ca G us 3 230 [(2, 590), (0, n)] H (fun r H' => (∃ x, r = some (0, x)) ∧ WT 2 g H' ∧ frm [32, 33, 3012] H H' ∧ IM H') := by
  refine ⟨_, _, _, _, _, _, vm_X12_limit, by simp [pcat], ?_⟩
  refine tr_lab (D := 2) (t := 0) vb_X12_limit_0 _ ve_X12_limit_0 ?_
  simp (maxDischargeDepth := 12) [vb_X12_limit_0, wB, wI, k1, kI, kR, kL, k2, pget, parg, ppush, pcat, zw_lit, zw_m1, zw_m2, zw_m3, zNC_eq, zrow, pup_app, pget_pss, pget_psx, nlg_some, nlg_none, sh_590]
  repeat' (with_reducible (first | (refine And.intro ?_ ?_) | intro _))
  all_goals try (refine Ca_use (ca_X12_isIn _ _ _ _) (by omega) ?_; rintro _ _ ⟨rfl, rfl⟩; simp (maxDischargeDepth := 12) [wB, wI, k1, kI, kR, kL, k2, pget, parg, ppush, pcat, zw_lit, zw_m1, zw_m2, zw_m3, zNC_eq, zrow, pup_app, pget_pss, pget_psx, nlg_some, nlg_none, sh_590])
  all_goals repeat' (with_reducible (first | (refine And.intro ?_ ?_) | intro _))
  all_goals try (refine Ca_use (ca_X12_become _ _ _ (by assumption) (by assumption) (by omega) (by omega) (by omega) (by first | (exact av_top rfl (by first | omega | exact zw_lo _ | exact zw_hi _) (by first | omega | exact zw_lo _ | exact zw_hi _)) | (exact vin (by omega) (by omega)) | (exact av_bill (by omega) (by omega) (by omega) (by omega) (by omega) (by omega) (by omega)))) (by omega) ?_; rintro _ _ ⟨⟨x, rfl⟩, hW3, hF3, hM3⟩; simp (maxDischargeDepth := 12) [wB, wI, k1, kI, kR, kL, k2, pget, parg, ppush, pcat, zw_lit, zw_m1, zw_m2, zw_m3, zNC_eq, zrow, pup_app, pget_pss, pget_psx, nlg_some, nlg_none, sh_590])
  all_goals repeat' (with_reducible (first | (refine And.intro ?_ ?_) | intro _))
  all_goals try (refine tr_lab (D := 2) (t := 19) vb_X12_limit_19 _ ve_X12_limit_19 ?_; simp (maxDischargeDepth := 12) [vb_X12_limit_19, wB, wI, k1, kI, kR, kL, k2, pget, parg, ppush, pcat, zw_lit, zw_m1, zw_m2, zw_m3, zNC_eq, zrow, pup_app, pget_pss, pget_psx, nlg_some, nlg_none, sh_590])
  all_goals repeat' (with_reducible (first | (refine And.intro ?_ ?_) | intro _))
  all_goals try (refine tr_lab (D := 2) (t := 20) vb_X12_limit_20 _ ve_X12_limit_20 ?_; simp (maxDischargeDepth := 12) [vb_X12_limit_20, wB, wI, k1, kI, kR, kL, k2, pget, parg, ppush, pcat, zw_lit, zw_m1, zw_m2, zw_m3, zNC_eq, zrow, pup_app, pget_pss, pget_psx, nlg_some, nlg_none, sh_590])
  all_goals repeat' (with_reducible (first | (refine And.intro ?_ ?_) | intro _))
  all_goals (first | omega | assumption | exact frm_refl _ _ | (exact ⟨_, rfl⟩) | ((repeat (first | assumption | exact frm_refl _ _ | (exact ⟨_, rfl⟩) | (refine WT_wr ?_ (by omega) (by omega) (by first | assumption | (exact av_top rfl (by first | omega | exact zw_lo _ | exact zw_hi _) (by first | omega | exact zw_lo _ | exact zw_hi _)) | (exact av_bill (by omega) (by omega) (by omega) (by omega) (by omega) (by first | omega | exact zw_lo _ | exact zw_hi _) (by first | omega | exact zw_lo _ | exact zw_hi _)) | (exact av_rem (by omega) (by omega) (by omega) (by omega)) | (exact vin (by omega) (by omega)))) | (refine fa_591 ?_ rfl) | (refine hF2 _ ?_) | (refine IM_wr ?_ (by omega)))); done) | skip)

set_option maxRecDepth 20000 in
set_option maxHeartbeats 4000000 in
theorem ca_X12_far {G : zG} {us : Nat} {g : Nat → Nat → Int} (n : Int) (H : PH) (hW : WT 2 g H) (hM : IM H) : Ca G us 3 231 [(2, 590), (0, n)] H (fun r H' => (∃ x, r = some (0, x)) ∧ WT 2 g H' ∧ frm [32, 33, 3012] H H' ∧ IM H') := by
  refine ⟨_, _, _, _, _, _, vm_X12_far, by simp [pcat], ?_⟩
  refine tr_lab (D := 2) (t := 0) vb_X12_far_0 _ ve_X12_far_0 ?_
  simp (maxDischargeDepth := 12) [vb_X12_far_0, wB, wI, k1, kI, kR, kL, k2, pget, parg, ppush, pcat, zw_lit, zw_m1, zw_m2, zw_m3, zNC_eq, zrow, pup_app, pget_pss, pget_psx, nlg_some, nlg_none, sh_590]
  repeat' (with_reducible (first | (refine And.intro ?_ ?_) | intro _))
  all_goals try (refine Ca_use (ca_X12_isIn _ _ _ _) (by omega) ?_; rintro _ _ ⟨rfl, rfl⟩; simp (maxDischargeDepth := 12) [wB, wI, k1, kI, kR, kL, k2, pget, parg, ppush, pcat, zw_lit, zw_m1, zw_m2, zw_m3, zNC_eq, zrow, pup_app, pget_pss, pget_psx, nlg_some, nlg_none, sh_590])
  all_goals repeat' (with_reducible (first | (refine And.intro ?_ ?_) | intro _))
  all_goals try (refine Ca_use (ca_X12_become _ _ _ (by assumption) (by assumption) (by omega) (by omega) (by omega) (by first | (exact av_top rfl (by first | omega | exact zw_lo _ | exact zw_hi _) (by first | omega | exact zw_lo _ | exact zw_hi _)) | (exact vin (by omega) (by omega)) | (exact av_bill (by omega) (by omega) (by omega) (by omega) (by omega) (by omega) (by omega)))) (by omega) ?_; rintro _ _ ⟨⟨x, rfl⟩, hW3, hF3, hM3⟩; simp (maxDischargeDepth := 12) [wB, wI, k1, kI, kR, kL, k2, pget, parg, ppush, pcat, zw_lit, zw_m1, zw_m2, zw_m3, zNC_eq, zrow, pup_app, pget_pss, pget_psx, nlg_some, nlg_none, sh_590])
  all_goals repeat' (with_reducible (first | (refine And.intro ?_ ?_) | intro _))
  all_goals try (refine tr_lab (D := 2) (t := 19) vb_X12_far_19 _ ve_X12_far_19 ?_; simp (maxDischargeDepth := 12) [vb_X12_far_19, wB, wI, k1, kI, kR, kL, k2, pget, parg, ppush, pcat, zw_lit, zw_m1, zw_m2, zw_m3, zNC_eq, zrow, pup_app, pget_pss, pget_psx, nlg_some, nlg_none, sh_590])
  all_goals repeat' (with_reducible (first | (refine And.intro ?_ ?_) | intro _))
  all_goals try (refine tr_lab (D := 2) (t := 20) vb_X12_far_20 _ ve_X12_far_20 ?_; simp (maxDischargeDepth := 12) [vb_X12_far_20, wB, wI, k1, kI, kR, kL, k2, pget, parg, ppush, pcat, zw_lit, zw_m1, zw_m2, zw_m3, zNC_eq, zrow, pup_app, pget_pss, pget_psx, nlg_some, nlg_none, sh_590])
  all_goals repeat' (with_reducible (first | (refine And.intro ?_ ?_) | intro _))
  all_goals (first | omega | assumption | exact frm_refl _ _ | (exact ⟨_, rfl⟩) | ((repeat (first | assumption | exact frm_refl _ _ | (exact ⟨_, rfl⟩) | (refine WT_wr ?_ (by omega) (by omega) (by first | assumption | (exact av_top rfl (by first | omega | exact zw_lo _ | exact zw_hi _) (by first | omega | exact zw_lo _ | exact zw_hi _)) | (exact av_bill (by omega) (by omega) (by omega) (by omega) (by omega) (by first | omega | exact zw_lo _ | exact zw_hi _) (by first | omega | exact zw_lo _ | exact zw_hi _)) | (exact av_rem (by omega) (by omega) (by omega) (by omega)) | (exact vin (by omega) (by omega)))) | (refine fa_591 ?_ rfl) | (refine hF2 _ ?_) | (refine IM_wr ?_ (by omega)))); done) | skip)

set_option maxRecDepth 20000 in
set_option maxHeartbeats 4000000 in
theorem ca_X12_pack {G : zG} {us : Nat} {g : Nat → Nat → Int} (n : Int) (H : PH) (hW : WT 2 g H) (hM : IM H) : Ca G us 3 232 [(2, 590), (0, n)] H (fun r H' => (∃ x, r = some (0, x)) ∧ WT 2 g H' ∧ frm [32, 33, 3012] H H' ∧ IM H') := by
  refine ⟨_, _, _, _, _, _, vm_X12_pack, by simp [pcat], ?_⟩
  refine tr_lab (D := 2) (t := 0) vb_X12_pack_0 _ ve_X12_pack_0 ?_
  simp (maxDischargeDepth := 12) [vb_X12_pack_0, wB, wI, k1, kI, kR, kL, k2, pget, parg, ppush, pcat, zw_lit, zw_m1, zw_m2, zw_m3, zNC_eq, zrow, pup_app, pget_pss, pget_psx, nlg_some, nlg_none, sh_590]
  repeat' (with_reducible (first | (refine And.intro ?_ ?_) | intro _))
  all_goals try (refine Ca_use (ca_X12_isIn _ _ _ _) (by omega) ?_; rintro _ _ ⟨rfl, rfl⟩; simp (maxDischargeDepth := 12) [wB, wI, k1, kI, kR, kL, k2, pget, parg, ppush, pcat, zw_lit, zw_m1, zw_m2, zw_m3, zNC_eq, zrow, pup_app, pget_pss, pget_psx, nlg_some, nlg_none, sh_590])
  all_goals repeat' (with_reducible (first | (refine And.intro ?_ ?_) | intro _))
  all_goals try (refine Ca_use (ca_X12_become _ _ _ (by assumption) (by assumption) (by omega) (by omega) (by omega) (by first | (exact av_top rfl (by first | omega | exact zw_lo _ | exact zw_hi _) (by first | omega | exact zw_lo _ | exact zw_hi _)) | (exact vin (by omega) (by omega)) | (exact av_bill (by omega) (by omega) (by omega) (by omega) (by omega) (by omega) (by omega)))) (by omega) ?_; rintro _ _ ⟨⟨x, rfl⟩, hW3, hF3, hM3⟩; simp (maxDischargeDepth := 12) [wB, wI, k1, kI, kR, kL, k2, pget, parg, ppush, pcat, zw_lit, zw_m1, zw_m2, zw_m3, zNC_eq, zrow, pup_app, pget_pss, pget_psx, nlg_some, nlg_none, sh_590])
  all_goals repeat' (with_reducible (first | (refine And.intro ?_ ?_) | intro _))
  all_goals try (refine tr_lab (D := 2) (t := 20) vb_X12_pack_20 _ ve_X12_pack_20 ?_; simp (maxDischargeDepth := 12) [vb_X12_pack_20, wB, wI, k1, kI, kR, kL, k2, pget, parg, ppush, pcat, zw_lit, zw_m1, zw_m2, zw_m3, zNC_eq, zrow, pup_app, pget_pss, pget_psx, nlg_some, nlg_none, sh_590])
  all_goals repeat' (with_reducible (first | (refine And.intro ?_ ?_) | intro _))
  all_goals try (refine tr_lab (D := 2) (t := 21) vb_X12_pack_21 _ ve_X12_pack_21 ?_; simp (maxDischargeDepth := 12) [vb_X12_pack_21, wB, wI, k1, kI, kR, kL, k2, pget, parg, ppush, pcat, zw_lit, zw_m1, zw_m2, zw_m3, zNC_eq, zrow, pup_app, pget_pss, pget_psx, nlg_some, nlg_none, sh_590])
  all_goals repeat' (with_reducible (first | (refine And.intro ?_ ?_) | intro _))
  all_goals (first | omega | assumption | exact frm_refl _ _ | (exact ⟨_, rfl⟩) | ((repeat (first | assumption | exact frm_refl _ _ | (exact ⟨_, rfl⟩) | (refine WT_wr ?_ (by omega) (by omega) (by first | assumption | (exact av_top rfl (by first | omega | exact zw_lo _ | exact zw_hi _) (by first | omega | exact zw_lo _ | exact zw_hi _)) | (exact av_bill (by omega) (by omega) (by omega) (by omega) (by omega) (by first | omega | exact zw_lo _ | exact zw_hi _) (by first | omega | exact zw_lo _ | exact zw_hi _)) | (exact av_rem (by omega) (by omega) (by omega) (by omega)) | (exact vin (by omega) (by omega)))) | (refine fa_591 ?_ rfl) | (refine hF2 _ ?_) | (refine IM_wr ?_ (by omega)))); done) | skip)

theorem ca_bec {G : zG} {us : Nat} {g : Nat → Nat → Int} {k k' v : Int} (H : PH) (e : k' = k) (hW : WT 2 g H) (hM : IM H) (kk0 : 0 ≤ k) (kk1 : k < 1124) (hk : k < 10 ∨ 76 ≤ k) (hv : aval (allT k.toNat) ((allT k.toNat).1, v)) : Ca G us 2 228 [(2, 590), (0, k'), (0, v)] H (fun r H' => (∃ x, r = some (0, x)) ∧ WT 2 g H' ∧ frm [32, 33, 3012] H H' ∧ IM H') := by
  rw [e]
  exact ca_X12_become k v H hW hM kk0 kk1 hk hv

set_option maxRecDepth 20000 in
set_option maxHeartbeats 4000000 in
theorem ca_X12_claim {G : zG} {us : Nat} {g : Nat → Nat → Int} (b n : Int) (H : PH) (hW : WT 2 g H) (hM : IM H) : Ca G us 3 229 [(2, 590), (0, b), (0, n)] H (fun r H' => (∃ x, r = some (0, x)) ∧ WT 2 g H' ∧ frm [32, 33, 3012] H H' ∧ IM H') := by
  have h0 := rd_0 hW
  have h2 := rd_2 hW
  refine ⟨_, _, _, _, _, _, vm_X12_claim, by simp [pcat], ?_⟩
  refine tr_lab (D := 2) (t := 0) vb_X12_claim_0 _ ve_X12_claim_0 ?_
  simp (maxDischargeDepth := 12) [vb_X12_claim_0, wB, wI, k1, kI, kR, kL, k2, pget, parg, ppush, pcat, zw_lit, zw_m1, zw_m2, zw_m3, zNC_eq, zrow, pup_app, pget_pss, pget_psx, nlg_some, nlg_none, sh_590]
  repeat' (with_reducible (first | (refine And.intro ?_ ?_) | intro _))
  all_goals try (refine Ca_use (ca_X12_isBill _ _ (by omega) (by omega)) (by omega) ?_; rintro _ _ ⟨rfl, rfl⟩; simp (maxDischargeDepth := 12) [wB, wI, k1, kI, kR, kL, k2, pget, parg, ppush, pcat, zw_lit, zw_m1, zw_m2, zw_m3, zNC_eq, zrow, pup_app, pget_pss, pget_psx, nlg_some, nlg_none, sh_590])
  all_goals repeat' (with_reducible (first | (refine And.intro ?_ ?_) | intro _))
  all_goals try (refine Ca_use (ca_X12_isIn _ _ _ _) (by omega) ?_; rintro _ _ ⟨rfl, rfl⟩; simp (maxDischargeDepth := 12) [wB, wI, k1, kI, kR, kL, k2, pget, parg, ppush, pcat, zw_lit, zw_m1, zw_m2, zw_m3, zNC_eq, zrow, pup_app, pget_pss, pget_psx, nlg_some, nlg_none, sh_590])
  all_goals repeat' (with_reducible (first | (refine And.intro ?_ ?_) | intro _))
  all_goals try (refine Ca_use (ca_X12_billAt _ _ (by omega) (by omega)) (by omega) ?_; rintro _ _ ⟨rfl, rfl⟩; simp (maxDischargeDepth := 12) [wB, wI, k1, kI, kR, kL, k2, pget, parg, ppush, pcat, zw_lit, zw_m1, zw_m2, zw_m3, zNC_eq, zrow, pup_app, pget_pss, pget_psx, nlg_some, nlg_none, sh_590])
  all_goals repeat' (with_reducible (first | (refine And.intro ?_ ?_) | intro _))
  all_goals try (refine Ca_use (ca_bec (k := 92 + 26 * b + 11) _ (zw_lit (by omega) (by omega)) (by assumption) (by assumption) (by omega) (by omega) (by omega) (av_bill (by omega) (by omega) (by omega) (by omega) (by omega) (by omega) (by omega))) (by omega) ?_; rintro _ _ ⟨⟨x, rfl⟩, hW3, hF3, hM3⟩; simp (maxDischargeDepth := 12) [wB, wI, k1, kI, kR, kL, k2, pget, parg, ppush, pcat, zw_lit, zw_m1, zw_m2, zw_m3, zNC_eq, zrow, pup_app, pget_pss, pget_psx, nlg_some, nlg_none, sh_590])
  all_goals repeat' (with_reducible (first | (refine And.intro ?_ ?_) | intro _))
  all_goals try (refine tr_lab (D := 2) (t := 34) vb_X12_claim_34 _ ve_X12_claim_34 ?_; simp (maxDischargeDepth := 12) [vb_X12_claim_34, wB, wI, k1, kI, kR, kL, k2, pget, parg, ppush, pcat, zw_lit, zw_m1, zw_m2, zw_m3, zNC_eq, zrow, pup_app, pget_pss, pget_psx, nlg_some, nlg_none, sh_590])
  all_goals repeat' (with_reducible (first | (refine And.intro ?_ ?_) | intro _))
  all_goals try (refine tr_lab (D := 2) (t := 35) vb_X12_claim_35 _ ve_X12_claim_35 ?_; simp (maxDischargeDepth := 12) [vb_X12_claim_35, wB, wI, k1, kI, kR, kL, k2, pget, parg, ppush, pcat, zw_lit, zw_m1, zw_m2, zw_m3, zNC_eq, zrow, pup_app, pget_pss, pget_psx, nlg_some, nlg_none, sh_590])
  all_goals repeat' (with_reducible (first | (refine And.intro ?_ ?_) | intro _))
  all_goals (first | omega | assumption | exact frm_refl _ _ | (exact ⟨_, rfl⟩) | ((repeat (first | assumption | exact frm_refl _ _ | (exact ⟨_, rfl⟩) | (refine WT_wr ?_ (by omega) (by omega) (by first | assumption | (exact av_top rfl (by first | omega | exact zw_lo _ | exact zw_hi _) (by first | omega | exact zw_lo _ | exact zw_hi _)) | (exact av_bill (by omega) (by omega) (by omega) (by omega) (by omega) (by first | omega | exact zw_lo _ | exact zw_hi _) (by first | omega | exact zw_lo _ | exact zw_hi _)) | (exact av_rem (by omega) (by omega) (by omega) (by omega)) | (exact vin (by omega) (by omega)))) | (refine fa_591 ?_ rfl) | (refine hF2 _ ?_) | (refine IM_wr ?_ (by omega)))); done) | skip)

set_option maxRecDepth 20000 in
set_option maxHeartbeats 4000000 in
theorem ca_X12_days {G : zG} {us : Nat} {g : Nat → Nat → Int} (n : Int) (H : PH) (hW : WT 2 g H) (hM : IM H) : Ca G us 3 253 [(2, 590), (0, n)] H (fun r H' => (∃ x, r = some (0, x)) ∧ WT 2 g H' ∧ frm [32, 33, 3012] H H' ∧ IM H') := by
  have zl := zw_lo (H 591 8 + n)
  have zh := zw_hi (H 591 8 + n)
  refine ⟨_, _, _, _, _, _, vm_X12_days, by simp [pcat], ?_⟩
  refine tr_lab (D := 2) (t := 0) vb_X12_days_0 _ ve_X12_days_0 ?_
  simp (maxDischargeDepth := 12) [vb_X12_days_0, wB, wI, k1, kI, kR, kL, k2, pget, parg, ppush, pcat, zw_lit, zw_m1, zw_m2, zw_m3, zNC_eq, zrow, pup_app, pget_pss, pget_psx, nlg_some, nlg_none, gv_590_0, tg_12_0, sh_590, sh_591]
  repeat' (with_reducible (first | (refine And.intro ?_ ?_) | intro _))
  all_goals try (refine Ca_use (ca_X12_isIn _ _ _ _) (by omega) ?_; rintro _ _ ⟨rfl, rfl⟩; simp (maxDischargeDepth := 12) [wB, wI, k1, kI, kR, kL, k2, pget, parg, ppush, pcat, zw_lit, zw_m1, zw_m2, zw_m3, zNC_eq, zrow, pup_app, pget_pss, pget_psx, nlg_some, nlg_none, gv_590_0, tg_12_0, sh_590, sh_591])
  all_goals repeat' (with_reducible (first | (refine And.intro ?_ ?_) | intro _))
  all_goals try (refine tr_lab (D := 2) (t := 12) vb_X12_days_12 _ ve_X12_days_12 ?_; simp (maxDischargeDepth := 12) [vb_X12_days_12, wB, wI, k1, kI, kR, kL, k2, pget, parg, ppush, pcat, zw_lit, zw_m1, zw_m2, zw_m3, zNC_eq, zrow, pup_app, pget_pss, pget_psx, nlg_some, nlg_none, gv_590_0, tg_12_0, sh_590, sh_591])
  all_goals repeat' (with_reducible (first | (refine And.intro ?_ ?_) | intro _))
  all_goals try (refine Ca_use (ca_lesser3 _ _ _) (by omega) ?_; rintro _ _ ⟨rfl, z, rfl, hz1, hz2, hz3⟩; simp (maxDischargeDepth := 12) [wB, wI, k1, kI, kR, kL, k2, pget, parg, ppush, pcat, zw_lit, zw_m1, zw_m2, zw_m3, zNC_eq, zrow, pup_app, pget_pss, pget_psx, nlg_some, nlg_none, gv_590_0, tg_12_0, sh_590, sh_591])
  all_goals repeat' (with_reducible (first | (refine And.intro ?_ ?_) | intro _))
  all_goals try (refine Ca_use (ca_X12_become _ _ _ (by assumption) (by assumption) (by omega) (by omega) (by omega) (by first | (exact av_top rfl (by first | omega | exact zw_lo _ | exact zw_hi _) (by first | omega | exact zw_lo _ | exact zw_hi _)) | (exact vin (by omega) (by omega)) | (exact av_bill (by omega) (by omega) (by omega) (by omega) (by omega) (by omega) (by omega)))) (by omega) ?_; rintro _ _ ⟨⟨x, rfl⟩, hW3, hF3, hM3⟩; simp (maxDischargeDepth := 12) [wB, wI, k1, kI, kR, kL, k2, pget, parg, ppush, pcat, zw_lit, zw_m1, zw_m2, zw_m3, zNC_eq, zrow, pup_app, pget_pss, pget_psx, nlg_some, nlg_none, gv_590_0, tg_12_0, sh_590, sh_591])
  all_goals repeat' (with_reducible (first | (refine And.intro ?_ ?_) | intro _))
  all_goals (first | omega | assumption | exact frm_refl _ _ | (exact ⟨_, rfl⟩) | ((repeat (first | assumption | exact frm_refl _ _ | (exact ⟨_, rfl⟩) | (refine WT_wr ?_ (by omega) (by omega) (by first | assumption | (exact av_top rfl (by first | omega | exact zw_lo _ | exact zw_hi _) (by first | omega | exact zw_lo _ | exact zw_hi _)) | (exact av_bill (by omega) (by omega) (by omega) (by omega) (by omega) (by first | omega | exact zw_lo _ | exact zw_hi _) (by first | omega | exact zw_lo _ | exact zw_hi _)) | (exact av_rem (by omega) (by omega) (by omega) (by omega)) | (exact vin (by omega) (by omega)))) | (refine fa_591 ?_ rfl) | (refine hF2 _ ?_) | (refine IM_wr ?_ (by omega)))); done) | skip)

set_option maxRecDepth 20000 in
set_option maxHeartbeats 4000000 in
theorem ca_X12_charge {G : zG} {us : Nat} {g : Nat → Nat → Int}  (H : PH)  : Ca G us 2 254 [(2, 590)] H (fun r H' => H = H' ∧ ∃ x, r = some (0, x)) := by
  refine ⟨_, _, _, _, _, _, vm_X12_charge, by simp [pcat], ?_⟩
  refine tr_lab (D := 1) (t := 0) vb_X12_charge_0 _ ve_X12_charge_0 ?_
  simp (maxDischargeDepth := 12) [vb_X12_charge_0, wB, wI, k1, kI, kR, kL, k2, pget, parg, ppush, pcat, zw_lit, zw_m1, zw_m2, zw_m3, zNC_eq, zrow, pup_app, pget_pss, pget_psx, nlg_some, nlg_none, gv_590_0, tg_12_0, sh_590, sh_591]
  repeat' (with_reducible (first | (refine And.intro ?_ ?_) | intro _))
  all_goals try (refine Ca_use (ca_X12_most _ _ _) (by omega) ?_; rintro _ _ ⟨rfl, rfl⟩; simp (maxDischargeDepth := 12) [wB, wI, k1, kI, kR, kL, k2, pget, parg, ppush, pcat, zw_lit, zw_m1, zw_m2, zw_m3, zNC_eq, zrow, pup_app, pget_pss, pget_psx, nlg_some, nlg_none, gv_590_0, tg_12_0, sh_590, sh_591])
  all_goals repeat' (with_reducible (first | (refine And.intro ?_ ?_) | intro _))
  all_goals (first | omega | assumption | exact frm_refl _ _ | (exact ⟨_, rfl⟩) | ((repeat (first | assumption | exact frm_refl _ _ | (exact ⟨_, rfl⟩) | (refine WT_wr ?_ (by omega) (by omega) (by first | assumption | (exact av_top rfl (by first | omega | exact zw_lo _ | exact zw_hi _) (by first | omega | exact zw_lo _ | exact zw_hi _)) | (exact av_bill (by omega) (by omega) (by omega) (by omega) (by omega) (by first | omega | exact zw_lo _ | exact zw_hi _) (by first | omega | exact zw_lo _ | exact zw_hi _)) | (exact av_rem (by omega) (by omega) (by omega) (by omega)) | (exact vin (by omega) (by omega)))) | (refine fa_591 ?_ rfl) | (refine hF2 _ ?_) | (refine IM_wr ?_ (by omega)))); done) | skip)

set_option maxRecDepth 20000 in
set_option maxHeartbeats 4000000 in
theorem ca_X12_rate {G : zG} {us : Nat} {g : Nat → Nat → Int} (a c : Int) (H : PH) (hW : WT 2 g H) (hM : IM H) : Ca G us 3 255 [(2, 590), (0, a), (0, c)] H (fun r H' => (∃ x, r = some (0, x)) ∧ WT 2 g H' ∧ frm [32, 33, 3012] H H' ∧ IM H') := by
  refine ⟨_, _, _, _, _, _, vm_X12_rate, by simp [pcat], ?_⟩
  refine tr_lab (D := 2) (t := 0) vb_X12_rate_0 _ ve_X12_rate_0 ?_
  simp (maxDischargeDepth := 12) [vb_X12_rate_0, wB, wI, k1, kI, kR, kL, k2, pget, parg, ppush, pcat, zw_lit, zw_m1, zw_m2, zw_m3, zNC_eq, zrow, pup_app, pget_pss, pget_psx, nlg_some, nlg_none, gv_590_0, tg_12_0, sh_590, sh_591]
  repeat' (with_reducible (first | (refine And.intro ?_ ?_) | intro _))
  all_goals try (refine Ca_use (ca_X12_isIn _ _ _ _) (by omega) ?_; rintro _ _ ⟨rfl, rfl⟩; simp (maxDischargeDepth := 12) [wB, wI, k1, kI, kR, kL, k2, pget, parg, ppush, pcat, zw_lit, zw_m1, zw_m2, zw_m3, zNC_eq, zrow, pup_app, pget_pss, pget_psx, nlg_some, nlg_none, gv_590_0, tg_12_0, sh_590, sh_591])
  all_goals repeat' (with_reducible (first | (refine And.intro ?_ ?_) | intro _))
  all_goals try (refine Ca_use (ca_X12_isIn _ _ _ _) (by omega) ?_; rintro _ _ ⟨rfl, rfl⟩; simp (maxDischargeDepth := 12) [wB, wI, k1, kI, kR, kL, k2, pget, parg, ppush, pcat, zw_lit, zw_m1, zw_m2, zw_m3, zNC_eq, zrow, pup_app, pget_pss, pget_psx, nlg_some, nlg_none, gv_590_0, tg_12_0, sh_590, sh_591])
  all_goals repeat' (with_reducible (first | (refine And.intro ?_ ?_) | intro _))
  all_goals try (refine tr_lab (D := 2) (t := 21) vb_X12_rate_21 _ ve_X12_rate_21 ?_; simp (maxDischargeDepth := 12) [vb_X12_rate_21, wB, wI, k1, kI, kR, kL, k2, pget, parg, ppush, pcat, zw_lit, zw_m1, zw_m2, zw_m3, zNC_eq, zrow, pup_app, pget_pss, pget_psx, nlg_some, nlg_none, gv_590_0, tg_12_0, sh_590, sh_591])
  all_goals repeat' (with_reducible (first | (refine And.intro ?_ ?_) | intro _))
  all_goals try (refine tr_lab (D := 2) (t := 23) vb_X12_rate_23 _ ve_X12_rate_23 ?_; simp (maxDischargeDepth := 12) [vb_X12_rate_23, wB, wI, k1, kI, kR, kL, k2, pget, parg, ppush, pcat, zw_lit, zw_m1, zw_m2, zw_m3, zNC_eq, zrow, pup_app, pget_pss, pget_psx, nlg_some, nlg_none, gv_590_0, tg_12_0, sh_590, sh_591])
  all_goals repeat' (with_reducible (first | (refine And.intro ?_ ?_) | intro _))
  all_goals try (refine Ca_use (ca_deed' _ (by assumption) (by assumption)) (by omega) ?_; rintro _ _ ⟨rfl, hW2, hF2, hM2, e2⟩; simp (maxDischargeDepth := 12) [wB, wI, k1, kI, kR, kL, k2, pget, parg, ppush, pcat, zw_lit, zw_m1, zw_m2, zw_m3, zNC_eq, zrow, pup_app, pget_pss, pget_psx, nlg_some, nlg_none, gv_590_0, tg_12_0, sh_590, sh_591])
  all_goals repeat' (with_reducible (first | (refine And.intro ?_ ?_) | intro _))
  all_goals try (refine Ca_use (ca_X12_charge (g := g) _) (by omega) ?_; rintro _ _ ⟨rfl, x, rfl⟩; simp (maxDischargeDepth := 12) [wB, wI, k1, kI, kR, kL, k2, pget, parg, ppush, pcat, zw_lit, zw_m1, zw_m2, zw_m3, zNC_eq, zrow, pup_app, pget_pss, pget_psx, nlg_some, nlg_none, gv_590_0, tg_12_0, sh_590, sh_591])
  all_goals repeat' (with_reducible (first | (refine And.intro ?_ ?_) | intro _))
  all_goals (first | omega | assumption | exact frm_refl _ _ | (exact ⟨_, rfl⟩) | ((repeat (first | assumption | exact frm_refl _ _ | (exact ⟨_, rfl⟩) | (refine WT_wr ?_ (by omega) (by omega) (by first | assumption | (exact av_top rfl (by first | omega | exact zw_lo _ | exact zw_hi _) (by first | omega | exact zw_lo _ | exact zw_hi _)) | (exact av_bill (by omega) (by omega) (by omega) (by omega) (by omega) (by first | omega | exact zw_lo _ | exact zw_hi _) (by first | omega | exact zw_lo _ | exact zw_hi _)) | (exact av_rem (by omega) (by omega) (by omega) (by omega)) | (exact vin (by omega) (by omega)))) | (refine fa_591 ?_ rfl) | (refine hF2 _ ?_) | (refine IM_wr ?_ (by omega)))); done) | skip)

set_option maxRecDepth 20000 in
set_option maxHeartbeats 4000000 in
theorem sg_X12_remark_47 {G : zG} {us : Nat} {g : Nat → Nat → Int} (H0 : PH) (b x n : Int) (b0 : 0 ≤ b) (b1 : b ≤ 11) (x0 : 0 ≤ x) (x1 : x ≤ 3) (n0 : 0 ≤ n) (n1 : n ≤ 999)  : ∀ (ls : PL) (H : PH), pget ls 0 = some (2, 590) → pget ls 1 = some (0, b) → pget ls 2 = some (0, x) → pget ls 3 = some (0, n) → WT 2 g H → IM H → frm [32, 33, 3012] H0 H → H 591 (92 + 26 * b + 13) ≠ 6 → Tr G us kd_X12_remark 3 (zget kd_X12_remark 47) 47 ls [] H (fun r H' => (∃ x, r = some (0, x)) ∧ WT 2 g H' ∧ frm [32, 33, 3012] H0 H' ∧ IM H') := by
  intro ls H  l0 l1 l2 l3 hW hM hF h6
  have hr := rd_rem hW b0 b1
  have z1 : zw (92 + 26 * b + 13) = 92 + 26 * b + 13 := zw_lit (by omega) (by omega)
  have z2 : zw (92 + 26 * b + 14) = 92 + 26 * b + 14 := zw_lit (by omega) (by omega)
  have z3 : zw (2 * H 591 (92 + 26 * b + 13)) = 2 * H 591 (92 + 26 * b + 13) := zw_lit (by omega) (by omega)
  have z4 : zw (92 + 26 * b + 14 + 2 * H 591 (92 + 26 * b + 13)) = 92 + 26 * b + (14 + 2 * H 591 (92 + 26 * b + 13)) := by rw [zw_lit (by omega) (by omega)]; omega
  have z5 : zw (92 + 26 * b + (14 + 2 * H 591 (92 + 26 * b + 13)) + 1) = 92 + 26 * b + (15 + 2 * H 591 (92 + 26 * b + 13)) := by rw [zw_lit (by omega) (by omega)]; omega
  have z6 : zw (H 591 (92 + 26 * b + 13) + 1) = H 591 (92 + 26 * b + 13) + 1 := zw_lit (by omega) (by omega)
  refine tr_lab (D := 2) (t := 47) vb_X12_remark_47 _ ve_X12_remark_47 ?_
  simp (maxDischargeDepth := 12) [vb_X12_remark_47, wB, wI, k1, kI, kR, kL, k2, pget, parg, ppush, pcat, zw_lit, zw_m1, zw_m2, zw_m3, zNC_eq, zrow, pup_app, pget_pss, pget_psx, nlg_some, nlg_none, gv_590_0, tg_12_0, sh_590, sh_591, z1, z2, z3, z4, z5, z6, l0, l1, l2, l3]
  repeat' (with_reducible (first | (refine And.intro ?_ ?_) | intro _))
  all_goals try (refine Ca_use (ca_deed' _ (by assumption) (by assumption)) (by omega) ?_; rintro _ _ ⟨rfl, hW2, hF2, hM2, e2⟩; simp (maxDischargeDepth := 12) [wB, wI, k1, kI, kR, kL, k2, pget, parg, ppush, pcat, zw_lit, zw_m1, zw_m2, zw_m3, zNC_eq, zrow, pup_app, pget_pss, pget_psx, nlg_some, nlg_none, gv_590_0, tg_12_0, sh_590, sh_591, e2, z1, z2, z3, z4, z5, z6, l0, l1, l2, l3])
  all_goals repeat' (with_reducible (first | (refine And.intro ?_ ?_) | intro _))
  all_goals try (refine Ca_use (ca_X12_billAt _ _ (by omega) (by omega)) (by omega) ?_; rintro _ _ ⟨rfl, rfl⟩; simp (maxDischargeDepth := 12) [wB, wI, k1, kI, kR, kL, k2, pget, parg, ppush, pcat, zw_lit, zw_m1, zw_m2, zw_m3, zNC_eq, zrow, pup_app, pget_pss, pget_psx, nlg_some, nlg_none, gv_590_0, tg_12_0, sh_590, sh_591, e2, z1, z2, z3, z4, z5, z6, l0, l1, l2, l3])
  all_goals repeat' (with_reducible (first | (refine And.intro ?_ ?_) | intro _))
  all_goals (first | omega | assumption | exact frm_refl _ _ | (exact ⟨_, rfl⟩) | ((repeat (first | assumption | exact frm_refl _ _ | (exact ⟨_, rfl⟩) | (refine WT_wr ?_ (by omega) (by omega) (by first | assumption | (exact av_top rfl (by first | omega | exact zw_lo _ | exact zw_hi _) (by first | omega | exact zw_lo _ | exact zw_hi _)) | (exact av_bill (by omega) (by omega) (by omega) (by omega) (by omega) (by first | omega | exact zw_lo _ | exact zw_hi _) (by first | omega | exact zw_lo _ | exact zw_hi _)) | (exact av_rem (by omega) (by omega) (by omega) (by omega)) | (exact vin (by omega) (by omega)))) | (refine fa_591 ?_ rfl) | (refine hF2 _ ?_) | (refine IM_wr ?_ (by omega)))); done) | skip)

set_option maxRecDepth 20000 in
set_option maxHeartbeats 4000000 in
theorem ca_X12_remark {G : zG} {us : Nat} {g : Nat → Nat → Int} (b x n : Int) (H : PH) (hW : WT 2 g H) (hM : IM H) : Ca G us 3 226 [(2, 590), (0, b), (0, x), (0, n)] H (fun r H' => (∃ x, r = some (0, x)) ∧ WT 2 g H' ∧ frm [32, 33, 3012] H H' ∧ IM H') := by
  have h0 := rd_0 hW
  refine ⟨_, _, _, _, _, _, vm_X12_remark, by simp [pcat], ?_⟩
  refine tr_lab (D := 2) (t := 0) vb_X12_remark_0 _ ve_X12_remark_0 ?_
  simp (maxDischargeDepth := 12) [vb_X12_remark_0, wB, wI, k1, kI, kR, kL, k2, pget, parg, ppush, pcat, zw_lit, zw_m1, zw_m2, zw_m3, zNC_eq, zrow, pup_app, pget_pss, pget_psx, nlg_some, nlg_none, gv_590_0, tg_12_0, sh_590, sh_591]
  repeat' (with_reducible (first | (refine And.intro ?_ ?_) | intro _))
  all_goals try (refine Ca_use (ca_X12_isBill _ _ (by omega) (by omega)) (by omega) ?_; rintro _ _ ⟨rfl, rfl⟩; simp (maxDischargeDepth := 12) [wB, wI, k1, kI, kR, kL, k2, pget, parg, ppush, pcat, zw_lit, zw_m1, zw_m2, zw_m3, zNC_eq, zrow, pup_app, pget_pss, pget_psx, nlg_some, nlg_none, gv_590_0, tg_12_0, sh_590, sh_591])
  all_goals repeat' (with_reducible (first | (refine And.intro ?_ ?_) | intro _))
  all_goals try (refine Ca_use (ca_X12_isIn _ _ _ _) (by omega) ?_; rintro _ _ ⟨rfl, rfl⟩; simp (maxDischargeDepth := 12) [wB, wI, k1, kI, kR, kL, k2, pget, parg, ppush, pcat, zw_lit, zw_m1, zw_m2, zw_m3, zNC_eq, zrow, pup_app, pget_pss, pget_psx, nlg_some, nlg_none, gv_590_0, tg_12_0, sh_590, sh_591])
  all_goals repeat' (with_reducible (first | (refine And.intro ?_ ?_) | intro _))
  all_goals try (refine Ca_use (ca_X12_isIn _ _ _ _) (by omega) ?_; rintro _ _ ⟨rfl, rfl⟩; simp (maxDischargeDepth := 12) [wB, wI, k1, kI, kR, kL, k2, pget, parg, ppush, pcat, zw_lit, zw_m1, zw_m2, zw_m3, zNC_eq, zrow, pup_app, pget_pss, pget_psx, nlg_some, nlg_none, gv_590_0, tg_12_0, sh_590, sh_591])
  all_goals repeat' (with_reducible (first | (refine And.intro ?_ ?_) | intro _))
  all_goals try (refine Ca_use (ca_X12_billAt _ _ (by omega) (by omega)) (by omega) ?_; rintro _ _ ⟨rfl, rfl⟩; simp (maxDischargeDepth := 12) [wB, wI, k1, kI, kR, kL, k2, pget, parg, ppush, pcat, zw_lit, zw_m1, zw_m2, zw_m3, zNC_eq, zrow, pup_app, pget_pss, pget_psx, nlg_some, nlg_none, gv_590_0, tg_12_0, sh_590, sh_591])
  all_goals repeat' (with_reducible (first | (refine And.intro ?_ ?_) | intro _))
  all_goals try (refine tr_lab (D := 2) (t := 45) vb_X12_remark_45 _ ve_X12_remark_45 ?_; simp (maxDischargeDepth := 12) [vb_X12_remark_45, wB, wI, k1, kI, kR, kL, k2, pget, parg, ppush, pcat, zw_lit, zw_m1, zw_m2, zw_m3, zNC_eq, zrow, pup_app, pget_pss, pget_psx, nlg_some, nlg_none, gv_590_0, tg_12_0, sh_590, sh_591])
  all_goals repeat' (with_reducible (first | (refine And.intro ?_ ?_) | intro _))
  all_goals try ((refine sg_X12_remark_47 H b x n (by omega) (by omega) (by omega) (by omega) (by omega) (by omega) _ _ ?_ ?_ ?_ ?_ ?_ ?_ ?_ ?_) <;> (try simp (maxDischargeDepth := 12) [pget_pss, pget_psx, nlg_some, nlg_none, pget, pup_app]))
  all_goals (first | omega | (rw [zw_lit (by omega) (by omega)]; omega) | (rw [← zw_lit (x := 92 + 26 * b + 13) (by omega) (by omega)]; assumption) | assumption | exact frm_refl _ _ | (exact ⟨_, rfl⟩) | ((repeat (first | assumption | exact frm_refl _ _ | (exact ⟨_, rfl⟩) | (refine WT_wr ?_ (by omega) (by omega) (by first | assumption | (exact av_top rfl (by first | omega | exact zw_lo _ | exact zw_hi _) (by first | omega | exact zw_lo _ | exact zw_hi _)) | (exact av_bill (by omega) (by omega) (by omega) (by omega) (by omega) (by first | omega | exact zw_lo _ | exact zw_hi _) (by first | omega | exact zw_lo _ | exact zw_hi _)) | (exact av_rem (by omega) (by omega) (by omega) (by omega)) | (exact vin (by omega) (by omega)))) | (refine fa_591 ?_ rfl) | (refine hF2 _ ?_) | (refine IM_wr ?_ (by omega)))); done) | skip)

