theorem rd_law {lv : Nat} {g : Nat → Nat → Int} {H : PH} (h : WT lv g H) : (0 ≤ H 1 5 ∧ H 1 5 < 622 ∧ tau (H 1 5).toNat = 4) ∧ (0 ≤ H 1 6 ∧ H 1 6 < 622 ∧ tau (H 1 6).toNat = 4) :=
  ⟨rd_ref (c := 1) (i := 5) (t := 4) h (by decide) (by decide +kernel) (by decide +kernel) (by decide +kernel), rd_ref (c := 1) (i := 6) (t := 4) h (by decide) (by decide +kernel) (by decide +kernel) (by decide +kernel)⟩
theorem w2_law5 {g : Nat → Nat → Int} {H : PH} {v : Int} (h : WT 2 g H) (v0 : 0 ≤ v) (v1 : v < 622) (hv : tau v.toNat = 4) : WT 2 g (pup H 1 5 v) := w2_ref (c := 1) (i := 5) (t := 4) h (by decide +kernel) (by decide +kernel) v0 v1 hv
theorem w2_law6 {g : Nat → Nat → Int} {H : PH} {v : Int} (h : WT 2 g H) (v0 : 0 ≤ v) (v1 : v < 622) (hv : tau v.toNat = 4) : WT 2 g (pup H 1 6 v) := w2_ref (c := 1) (i := 6) (t := 4) h (by decide +kernel) (by decide +kernel) v0 v1 hv
theorem ff_1_5 {md : List Nat} {v : Int} {H0 H : PH} (h : frm md H0 H) (hm : inmd md 1 5 = true) : frm md H0 (pup H 1 5 v) := frm_up (c := 1) (i := 5) h (by decide +kernel) (by rw [show tau 1 = 1 from rfl]; exact hm)
theorem ff_1_6 {md : List Nat} {v : Int} {H0 H : PH} (h : frm md H0 H) (hm : inmd md 1 6 = true) : frm md H0 (pup H 1 6 v) := frm_up (c := 1) (i := 6) h (by decide +kernel) (by rw [show tau 1 = 1 from rfl]; exact hm)
theorem shk {p : Int} (p0 : 0 ≤ p) (p1 : p < 622) (p2 : tau p.toNat = 4) : (zSh p.toNat).1 = 4 := by
  have h := tau_all p.toNat (by omega)
  simp only [Bool.and_eq_true] at h
  have h1 := Nat.eq_of_beq_eq_true h.1.1.1.1
  rw [h1, p2]
  rfl
theorem ca_take {G : zG} {us : Nat} {g : Nat → Nat → Int} (p : Int) (H : PH) (hW : WT 2 g H) (hL : LOGH H) (hM : IM H) (p0 : 0 ≤ p) (p1 : p < 622) (p2 : tau p.toNat = 4) : Ca G us 29 44 [(2, p), (2, 213)] H (fun r H' => (∃ x, r = some (0, x) ∧ -2147483648 ≤ x ∧ x ≤ 2147483647) ∧ WT 2 g H' ∧ (∀ X : PH, frm [0, 1, 2, 3, 5, 6, 9, 11, 34, 35, 36, 37, 38, 39, 40, 41, 42, 43, 44, 45, 46, 47, 48, 49, 50, 51, 53, 54, 55, 56, 57, 58, 59, 60, 61, 62, 63, 64, 65, 66, 67, 68, 69, 70, 71, 72, 73, 74, 75, 76, 77, 4, 10] X H → frm [0, 1, 2, 3, 5, 6, 9, 11, 34, 35, 36, 37, 38, 39, 40, 41, 42, 43, 44, 45, 46, 47, 48, 49, 50, 51, 53, 54, 55, 56, 57, 58, 59, 60, 61, 62, 63, 64, 65, 66, 67, 68, 69, 70, 71, 72, 73, 74, 75, 76, 77, 4, 10] X H') ∧ LOGH H' ∧ IM H') := by
  refine Ca_mono (Nat.le_refl _) ?_ (ct_X4_takeFrom G us (gH H) H _ (GOK_gH hM) (WT_self hW) ⟨vref p0 p1 p2, sref 213 (by decide) rfl, trivial⟩ (fun f hf => by cases hf))
  rintro r H' ⟨q1, q2, _, q4, _⟩
  exact ⟨rok_int q2, WT_two q1, fun X hX => frm_trans hX (frm_sub rfl q4), (LOGH_frz hW q1 hL).1, IM_same hW (SM_frz q1).1 hM⟩

set_option maxRecDepth 20000 in
set_option maxHeartbeats 4000000 in
theorem sg_X11_law_32 {G : zG} {us : Nat} {g : Nat → Nat → Int} (H0 : PH) (p x : Int) (p0 : 0 ≤ p) (p1 : p < 622) (p2 : tau p.toNat = 4)  : ∀ (ls : PL) (H : PH), pget ls 0 = some (2, 0) → pget ls 1 = some (2, p) → pget ls 2 = some (0, x) → WT 2 g H → LOGH H → IM H → frm [0, 1, 2, 3, 5, 6, 9, 11, 34, 35, 36, 37, 38, 39, 40, 41, 42, 43, 44, 45, 46, 47, 48, 49, 50, 51, 53, 54, 55, 56, 57, 58, 59, 60, 61, 62, 63, 64, 65, 66, 67, 68, 69, 70, 71, 72, 73, 74, 75, 76, 77, 4, 10] H0 H → H 213 1 = 0 → Tr G us kd_X11_law 31 (zget kd_X11_law 32) 32 ls [] H (fun r H' => (∃ x, r = some (0, x)) ∧ WT 2 g H' ∧ frm [0, 1, 2, 3, 5, 6, 9, 11, 34, 35, 36, 37, 38, 39, 40, 41, 42, 43, 44, 45, 46, 47, 48, 49, 50, 51, 53, 54, 55, 56, 57, 58, 59, 60, 61, 62, 63, 64, 65, 66, 67, 68, 69, 70, 71, 72, 73, 74, 75, 76, 77, 4, 10] H0 H' ∧ LOGH H' ∧ IM H' ∧ H' 213 1 = 0) := by
  intro ls H  l0 l1 l2 hW hL hM hF h1
  have nd1 : True := trivial
  have nd2 : True := trivial
  refine tr_lab (D := 30) (t := 32) vb_X11_law_32 _ ve_X11_law_32 ?_
  simp (maxDischargeDepth := 12) [vb_X11_law_32, wB, wI, k1, kI, kR, kL, k2, pget, parg, ppush, pcat, zw_lit, zw_m1, zw_m2, zw_m3, zNC_eq, zrow, pup_app, pget_pss, pget_psx, nlg_some, nlg_none, gv_0_0, gv_0_1, gv_1_5, gv_1_6, pe, tg_10_1, tg_11_0, tg_11_1, tg_1_5, tg_1_6, tg_2_4, zfit, zisI, sh_590, sh_0, sh_1, nd1, nd2, l0, l1, l2]
  repeat' (with_reducible (first | (refine And.intro ?_ ?_) | intro _))
  all_goals try (refine Ca_use (ca_noteP 1 _ _ _ _ (by assumption) (by assumption) (by assumption) (by omega) (by omega) (by omega) (by omega) (by unfold plain; omega)) (by omega) ?_; rintro _ _ ⟨l, l0, l1, rfl, hW2, hF2, hA2, hL2, hM2⟩; simp (maxDischargeDepth := 12) [wB, wI, k1, kI, kR, kL, k2, pget, parg, ppush, pcat, zw_lit, zw_m1, zw_m2, zw_m3, zNC_eq, zrow, pup_app, pget_pss, pget_psx, nlg_some, nlg_none, gv_0_0, gv_0_1, gv_1_5, gv_1_6, pe, tg_10_1, tg_11_0, tg_11_1, tg_1_5, tg_1_6, tg_2_4, zfit, zisI, sh_590, sh_0, sh_1, nd1, nd2, l0, l1, l2, (sh_deed l0 l1).1, (sh_deed l0 l1).2.1, (dz l0 l1).1, (dz l0 l1).2, dg4 l0 l1, dg5 l0 l1, (show ¬ 469 + 6 * l = 1 by omega), (show ¬ (1 : Int) = 469 + 6 * l by omega)])
  all_goals repeat' (with_reducible (first | (refine And.intro ?_ ?_) | intro _))
  all_goals (first | omega | assumption | (exact ⟨_, rfl⟩) | ((repeat (first | assumption | (exact ⟨_, rfl⟩) | (refine w2_law5 ?_ p0 p1 p2) | (refine w2_law6 ?_ (rd_deed45 hW2 l0 l1).1.1 (rd_deed45 hW2 l0 l1).1.2.1 (rd_deed45 hW2 l0 l1).1.2.2) | (refine w2_deed45 4 (by omega) ?_ l0 l1 (rd_law hW2).1.1 (rd_law hW2).1.2.1 (rd_law hW2).1.2.2) | (refine ff_1_5 ?_ rfl) | (refine ff_1_6 ?_ rfl) | (refine fr_deed45 4 (by omega) ?_ l0 l1 rfl) | (exact frm_trans hF (frm_sub rfl (hF2 _ (frm_refl _ _)))) | (refine LOGH_pup (g := g) (lv := 2) ?_ ?_ (by omega) (by omega) (by omega) (by omega)) | (refine IM_pup ?_ (by omega)))); done) | (rw [hA2 213 1 (by decide) (by decide)]; exact h1) | (exact pe_R (c := p) (by omega)) | (have t1 := (rd_deed45 hW2 l0 l1).1.1; have t2 := (rd_law hW2).1.1; show zisR (pe (2, _)) = true; refine pe_R ?_; omega) | rfl | decide | skip)

set_option maxRecDepth 20000 in
set_option maxHeartbeats 4000000 in
theorem ca_X11_law {G : zG} {us : Nat} {g : Nat → Nat → Int}  (H : PH) (hW : WT 2 g H) (hL : LOGH H) (hM : IM H) : Ca G us 31 108 [(2, 0)] H (fun r H' => (∃ x, r = some (0, x)) ∧ WT 2 g H' ∧ frm [0, 1, 2, 3, 5, 6, 9, 11, 34, 35, 36, 37, 38, 39, 40, 41, 42, 43, 44, 45, 46, 47, 48, 49, 50, 51, 53, 54, 55, 56, 57, 58, 59, 60, 61, 62, 63, 64, 65, 66, 67, 68, 69, 70, 71, 72, 73, 74, 75, 76, 77, 4, 10] H H' ∧ LOGH H' ∧ IM H' ∧ H' 213 1 = 0) := by
  have t2 := (rd_law hW).2
  refine ⟨_, _, _, _, _, _, vm_X11_law, by simp [pcat], ?_⟩
  refine tr_lab (D := 30) (t := 0) vb_X11_law_0 _ ve_X11_law_0 ?_
  simp (maxDischargeDepth := 12) [vb_X11_law_0, wB, wI, k1, kI, kR, kL, k2, pget, parg, ppush, pcat, zw_lit, zw_m1, zw_m2, zw_m3, zNC_eq, zrow, pup_app, pget_pss, pget_psx, nlg_some, nlg_none, gv_0_0, gv_0_1, gv_1_5, gv_1_6, pe, tg_10_1, tg_11_0, tg_11_1, tg_1_5, tg_1_6, tg_2_4, zfit, zisI, sh_590, sh_0, sh_1, sh_213]
  repeat' (with_reducible (first | (refine And.intro ?_ ?_) | intro _))
  all_goals try (refine Ca_use (ca_take _ _ hW hL hM (rd_law hW).2.1 (rd_law hW).2.2.1 (rd_law hW).2.2.2) (by omega) ?_; rintro _ _ ⟨⟨x, rfl, x0, x1⟩, hW2, hF2, hL2, hM2⟩; simp (maxDischargeDepth := 12) [wB, wI, k1, kI, kR, kL, k2, pget, parg, ppush, pcat, zw_lit, zw_m1, zw_m2, zw_m3, zNC_eq, zrow, pup_app, pget_pss, pget_psx, nlg_some, nlg_none, gv_0_0, gv_0_1, gv_1_5, gv_1_6, pe, tg_10_1, tg_11_0, tg_11_1, tg_1_5, tg_1_6, tg_2_4, zfit, zisI, sh_590, sh_0, sh_1, sh_213])
  all_goals repeat' (with_reducible (first | (refine And.intro ?_ ?_) | intro _))
  all_goals try ((refine sg_X11_law_32 H (H 1 6) x (rd_law hW).2.1 (rd_law hW).2.2.1 (rd_law hW).2.2.2 _ _ ?_ ?_ ?_ ?_ ?_ ?_ ?_ ?_) <;> (try simp (maxDischargeDepth := 12) [pget_pss, pget_psx, nlg_some, nlg_none, pget, pup_app]))
  all_goals (first | omega | assumption | (exact ⟨_, rfl⟩) | rfl | (exact w2_213_1 hW2 (by omega) (by omega)) | (exact ff_213_1 (hF2 _ (frm_refl _ _)) rfl) | (refine LOGH_pup (g := g) (lv := 2) hW2 hL2 (by omega) (by omega) (by omega) (by omega)) | (exact IM_pup hM2 (by omega)) | (exact shk t2.1 t2.2.1 t2.2.2) | decide | skip)

