theorem rd_ref {lv : Nat} {g : Nat → Nat → Int} {H : PH} {c i t : Nat} (h : WT lv g H) (hc : c < 622) (hi : i < (zSh c).2.1) (hz : zrt c i = none) (ht : fty (tau c) i = (2, 0, 0, t)) : 0 ≤ H c i ∧ H c i < 622 ∧ tau (H c i).toNat = t := by
  have := (h c i hc hi).1
  rw [ht, gv_none (by rw [Int.toNat_natCast, Int.toNat_natCast]; exact hz)] at this
  exact this.2.2.2 rfl
theorem w2_ref {g : Nat → Nat → Int} {H : PH} {c i t : Nat} {v : Int} (h : WT 2 g H) (hz : zrt c i = none) (ht : fty (tau c) i = (2, 0, 0, t)) (v0 : 0 ≤ v) (v1 : v < 622) (hv : tau v.toNat = t) : WT 2 g (pup H c i v) := WT_up h hz (by
  rw [ht]
  exact ⟨rfl, fun q => (by cases q), fun q => (by cases q), fun _ => ⟨v0, v1, hv⟩⟩) rfl
theorem rd_deed45 {lv : Nat} {g : Nat → Nat → Int} {H : PH} {l : Int} (h : WT lv g H) (l0 : 0 ≤ l) (l1 : l ≤ 19) : (0 ≤ H (469 + 6 * l) 4 ∧ H (469 + 6 * l) 4 < 622 ∧ tau (H (469 + 6 * l) 4).toNat = 4) ∧ (0 ≤ H (469 + 6 * l) 5 ∧ H (469 + 6 * l) 5 < 622 ∧ tau (H (469 + 6 * l) 5).toNat = 5) := by
  have hs := sh_deedN l.toNat (by omega)
  have ec : ((469 + 6 * l.toNat : Nat) : Int) = 469 + 6 * l := by omega
  have h4 := rd_ref (i := 4) (t := 4) h (show 469 + 6 * l.toNat < 622 by omega) (by rw [hs.2.1]; omega) hs.2.2.2.2.2.2.1 (by rw [hs.2.2.2.2.2.2.2.2]; rfl)
  have h5 := rd_ref (i := 5) (t := 5) h (show 469 + 6 * l.toNat < 622 by omega) (by rw [hs.2.1]; omega) hs.2.2.2.2.2.2.2.1 (by rw [hs.2.2.2.2.2.2.2.2]; rfl)
  rw [ec] at h4 h5
  exact ⟨h4, h5⟩
theorem w2_deed45 {g : Nat → Nat → Int} {H : PH} {l v : Int} (i : Nat) (hi : i = 4 ∨ i = 5) (h : WT 2 g H) (l0 : 0 ≤ l) (l1 : l ≤ 19) (v0 : 0 ≤ v) (v1 : v < 622) (hv : tau v.toNat = i) : WT 2 g (pup H (469 + 6 * l) i v) := by
  have hs := sh_deedN l.toNat (by omega)
  have ec : ((469 + 6 * l.toNat : Nat) : Int) = 469 + 6 * l := by omega
  have := w2_ref (c := 469 + 6 * l.toNat) (i := i) (t := i) h (by
    rcases hi with rfl | rfl
    · exact hs.2.2.2.2.2.2.1
    · exact hs.2.2.2.2.2.2.2.1) (by
    rw [hs.2.2.2.2.2.2.2.2]
    rcases hi with rfl | rfl <;> rfl) v0 v1 hv
  rw [ec] at this
  exact this
theorem fr_deed45 {md : List Nat} {H0 H : PH} {l v : Int} (i : Nat) (hi : i = 4 ∨ i = 5) (h : frm md H0 H) (l0 : 0 ≤ l) (l1 : l ≤ 19) (hm : inmd md 2 i = true) : frm md H0 (pup H (469 + 6 * l) i v) := by
  have hs := sh_deedN l.toNat (by omega)
  have ec : ((469 + 6 * l.toNat : Nat) : Int) = 469 + 6 * l := by omega
  have := frm_up (c := 469 + 6 * l.toNat) (i := i) (v := v) h (by
    rw [Int.toNat_natCast]
    rcases hi with rfl | rfl
    · exact hs.2.2.2.2.2.2.1
    · exact hs.2.2.2.2.2.2.2.1) (by rw [hs.2.2.2.2.2.2.2.2]; exact hm)
  rw [ec] at this
  exact this
theorem dz {l : Int} (l0 : 0 ≤ l) (l1 : l ≤ 19) : zrt (469 + 6 * l).toNat 4 = none ∧ zrt (469 + 6 * l).toNat 5 = none := by
  have hs := sh_deedN l.toNat (by omega)
  rw [deedN l0]
  exact ⟨hs.2.2.2.2.2.2.1, hs.2.2.2.2.2.2.2.1⟩
theorem dg4 {X : PH} {l : Int} (l0 : 0 ≤ l) (l1 : l ≤ 19) : gv X (469 + 6 * l) 4 = X (469 + 6 * l) 4 := gv_none (dz l0 l1).1
theorem dg5 {X : PH} {l : Int} (l0 : 0 ≤ l) (l1 : l ≤ 19) : gv X (469 + 6 * l) 5 = X (469 + 6 * l) 5 := gv_none (dz l0 l1).2
theorem rok_ref {a b : Int} {t : Nat} {r : Option pv} (h : rok (some (2, a, b, t)) r) : ∃ c : Int, r = some (2, c) ∧ 0 ≤ c ∧ c < 622 ∧ tau c.toNat = t := by
  match r, h with
  | some p, h =>
    obtain ⟨c, rfl, h1, h2⟩ := arg_ref h
    exact ⟨c, rfl, by omega, by omega, by rw [Int.toNat_natCast]; exact h2⟩
theorem vref {t : Nat} {c : Int} (h0 : 0 ≤ c) (h1 : c < 622) (h2 : tau c.toNat = t) : aval (2, 0, 0, t) (2, c) := ⟨rfl, fun q => (by cases q), fun q => (by cases q), fun _ => ⟨h0, h1, h2⟩⟩
theorem ca_out {G : zG} {us : Nat} {g : Nat → Nat → Int} (k p : Int) (H : PH) (hW : WT 2 g H) (hL : LOGH H) (hM : IM H) (k0 : 0 ≤ k) (k59 : k ≤ 59) (p0 : 0 ≤ p) (p1 : p < 622) (p2 : tau p.toNat = 5) (h4 : 1 ≤ H 1 4) : Ca G us 1 13 [(2, 1), (0, k), (2, p)] H (fun r H' => ∃ q, r = some (2, q) ∧ 0 ≤ q ∧ q < 622 ∧ tau q.toNat = 5 ∧ WT 2 g H' ∧ (∀ X : PH, frm [0, 1, 2, 3, 5, 6, 9, 11, 34, 35, 36, 37, 38, 39, 40, 41, 42, 43, 44, 45, 46, 47, 48, 49, 50, 51, 53, 54, 55, 56, 57, 58, 59, 60, 61, 62, 63, 64, 65, 66, 67, 68, 69, 70, 71, 72, 73, 74, 75, 76, 77] X H → frm [0, 1, 2, 3, 5, 6, 9, 11, 34, 35, 36, 37, 38, 39, 40, 41, 42, 43, 44, 45, 46, 47, 48, 49, 50, 51, 53, 54, 55, 56, 57, 58, 59, 60, 61, 62, 63, 64, 65, 66, 67, 68, 69, 70, 71, 72, 73, 74, 75, 76, 77] X H') ∧ LOGH H' ∧ IM H') := by
  refine Ca_mono (Nat.le_refl _) ?_ (ct_X1_takeOut G us (gH H) H _ (GOK_gH hM) (WT_self hW) ⟨sref 1 (by decide) rfl, vin k0 k59, vref p0 p1 p2, trivial⟩ (fun f hf => by
    rcases List.mem_cons.mp hf with rfl | hf
    · exact fokf rfl h4 (rf_1_4 hW).2
    · cases hf))
  rintro r H' ⟨q1, q2, _, q4, _⟩
  obtain ⟨c, rfl, c0, c1, c2⟩ := rok_ref q2
  exact ⟨c, rfl, c0, c1, c2, WT_two q1, fun X hX => frm_trans hX (frm_sub rfl q4), (LOGH_frz hW q1 hL).1, IM_same hW (SM_frz q1).1 hM⟩
theorem ca_back {G : zG} {us : Nat} {g : Nat → Nat → Int} (k p : Int) (H : PH) (hW : WT 2 g H) (hL : LOGH H) (hM : IM H) (k0 : 0 ≤ k) (k59 : k ≤ 59) (p0 : 0 ≤ p) (p1 : p < 622) (p2 : tau p.toNat = 5) : Ca G us 1 14 [(2, 1), (0, k), (2, p)] H (fun r H' => ∃ q, r = some (2, q) ∧ 0 ≤ q ∧ q < 622 ∧ tau q.toNat = 5 ∧ WT 2 g H' ∧ (∀ X : PH, frm [0, 1, 2, 3, 5, 6, 9, 11, 34, 35, 36, 37, 38, 39, 40, 41, 42, 43, 44, 45, 46, 47, 48, 49, 50, 51, 53, 54, 55, 56, 57, 58, 59, 60, 61, 62, 63, 64, 65, 66, 67, 68, 69, 70, 71, 72, 73, 74, 75, 76, 77] X H → frm [0, 1, 2, 3, 5, 6, 9, 11, 34, 35, 36, 37, 38, 39, 40, 41, 42, 43, 44, 45, 46, 47, 48, 49, 50, 51, 53, 54, 55, 56, 57, 58, 59, 60, 61, 62, 63, 64, 65, 66, 67, 68, 69, 70, 71, 72, 73, 74, 75, 76, 77] X H') ∧ SC H H' ∧ H' 1 2 = H 1 2 ∧ (∀ x, 0 ≤ x → x ≤ 11 → rem H' x = rem H x) ∧ IM H') := by
  refine Ca_mono (Nat.le_refl _) ?_ (ct_X1_putBack G us (gH H) H _ (GOK_gH hM) (WT_self hW) ⟨sref 1 (by decide) rfl, vin k0 k59, vref p0 p1 p2, trivial⟩ (fun f hf => by cases hf))
  rintro r H' ⟨q1, q2, _, q4, _⟩
  obtain ⟨c, rfl, c0, c1, c2⟩ := rok_ref q2
  exact ⟨c, rfl, c0, c1, c2, WT_two q1, fun X hX => frm_trans hX (frm_sub rfl q4), SC_frm q4 rfl rfl rfl rfl rfl rfl, q4 1 2 (by decide) rfl, rem_frm q4 rfl, IM_same hW (SM_frz q1).1 hM⟩

set_option maxRecDepth 20000 in
set_option maxHeartbeats 4000000 in
theorem ca_X11_strike {G : zG} {us : Nat} {g : Nat → Nat → Int} (k : Int) (H : PH) (hW : WT 2 g H) (hL : LOGH H) (hM : IM H) : Ca G us 4 141 [(2, 0), (0, k)] H (fun r H' => (∃ x, r = some (0, x)) ∧ WT 2 g H' ∧ frm [0, 1, 2, 3, 5, 6, 9, 11, 34, 35, 36, 37, 38, 39, 40, 41, 42, 43, 44, 45, 46, 47, 48, 49, 50, 51, 53, 54, 55, 56, 57, 58, 59, 60, 61, 62, 63, 64, 65, 66, 67, 68, 69, 70, 71, 72, 73, 74, 75, 76, 77] H H' ∧ LOGH H' ∧ IM H') := by
  have h4 := rf_1_4 hW
  refine ⟨_, _, _, _, _, _, vm_X11_strike, by simp [pcat], ?_⟩
  refine tr_lab (D := 3) (t := 0) vb_X11_strike_0 _ ve_X11_strike_0 ?_
  simp (maxDischargeDepth := 12) [vb_X11_strike_0, wB, wI, k1, kI, kR, kL, k2, pget, parg, ppush, pcat, zw_lit, zw_m1, zw_m2, zw_m3, zNC_eq, zrow, pup_app, pget_pss, pget_psx, nlg_some, nlg_none, gv_0_0, gv_1_4, pe, tg_11_0, tg_1_4, tg_2_5, zfit, zisI, sh_590, sh_0, sh_1]
  repeat' (with_reducible (first | (refine And.intro ?_ ?_) | intro _))
  all_goals try (refine Ca_use (ca_X11_isLine _ _ (by omega) (by omega)) (by omega) ?_; rintro _ _ ⟨rfl, rfl⟩; simp (maxDischargeDepth := 12) [wB, wI, k1, kI, kR, kL, k2, pget, parg, ppush, pcat, zw_lit, zw_m1, zw_m2, zw_m3, zNC_eq, zrow, pup_app, pget_pss, pget_psx, nlg_some, nlg_none, gv_0_0, gv_1_4, pe, tg_11_0, tg_1_4, tg_2_5, zfit, zisI, sh_590, sh_0, sh_1])
  all_goals repeat' (with_reducible (first | (refine And.intro ?_ ?_) | intro _))
  all_goals try (refine tr_lab (D := 3) (t := 10) vb_X11_strike_10 _ ve_X11_strike_10 ?_; simp (maxDischargeDepth := 12) [vb_X11_strike_10, wB, wI, k1, kI, kR, kL, k2, pget, parg, ppush, pcat, zw_lit, zw_m1, zw_m2, zw_m3, zNC_eq, zrow, pup_app, pget_pss, pget_psx, nlg_some, nlg_none, gv_0_0, gv_1_4, pe, tg_11_0, tg_1_4, tg_2_5, zfit, zisI, sh_590, sh_0, sh_1])
  all_goals repeat' (with_reducible (first | (refine And.intro ?_ ?_) | intro _))
  all_goals try (refine Ca_use (ca_noteP 7 _ _ _ _ (by assumption) (by assumption) (by assumption) (by omega) (by omega) (by omega) (by omega) (by unfold plain; omega)) (by omega) ?_; rintro _ _ ⟨l, l0, l1, rfl, hW2, hF2, hA2, hL2, hM2⟩; simp (maxDischargeDepth := 12) [wB, wI, k1, kI, kR, kL, k2, pget, parg, ppush, pcat, zw_lit, zw_m1, zw_m2, zw_m3, zNC_eq, zrow, pup_app, pget_pss, pget_psx, nlg_some, nlg_none, gv_0_0, gv_1_4, pe, tg_11_0, tg_1_4, tg_2_5, zfit, zisI, sh_590, sh_0, sh_1, (sh_deed l0 l1).1, (sh_deed l0 l1).2.1, (dz l0 l1).1, (dz l0 l1).2, dg4 l0 l1, dg5 l0 l1])
  all_goals repeat' (with_reducible (first | (refine And.intro ?_ ?_) | intro _))
  all_goals try (refine Ca_use (ca_out _ _ _ hW2 hL2 hM2 (by omega) (by omega) (rd_deed45 hW2 l0 l1).2.1 (rd_deed45 hW2 l0 l1).2.2.1 (rd_deed45 hW2 l0 l1).2.2.2 (by rw [hA2 1 4 (by decide) (by decide)]; omega)) (by omega) ?_; rintro _ _ ⟨q, rfl, q0, q1, q2, hW3, hF3, hL3, hM3⟩; simp (maxDischargeDepth := 12) [wB, wI, k1, kI, kR, kL, k2, pget, parg, ppush, pcat, zw_lit, zw_m1, zw_m2, zw_m3, zNC_eq, zrow, pup_app, pget_pss, pget_psx, nlg_some, nlg_none, gv_0_0, gv_1_4, pe, tg_11_0, tg_1_4, tg_2_5, zfit, zisI, sh_590, sh_0, sh_1, (sh_deed l0 l1).1, (sh_deed l0 l1).2.1, (dz l0 l1).1, (dz l0 l1).2, dg4 l0 l1, dg5 l0 l1])
  all_goals repeat' (with_reducible (first | (refine And.intro ?_ ?_) | intro _))
  all_goals (first | omega | assumption | (exact ⟨_, rfl⟩) | exact frm_refl _ _ | ((repeat (first | assumption | exact frm_refl _ _ | (exact ⟨_, rfl⟩) | (refine w2_deed45 5 (by omega) ?_ l0 l1 (by assumption) (by assumption) (by assumption)) | (refine fr_deed45 5 (by omega) ?_ l0 l1 rfl) | (refine hF3 _ ?_) | (refine hF2 _ ?_) | (refine LOGH_pup (g := g) (lv := 2) ?_ ?_ (by omega) (by omega) (by omega) (by omega)) | (refine IM_pup ?_ (by omega)))); done) | (exact pe_R (c := q) (by omega)) | rfl | decide | skip)

