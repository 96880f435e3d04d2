/-- the same but for the cells of L and the fields of F of the model -/
def mF (L F : List Int) (H H' : PH) : Prop := ∀ c i, c ∉ L → (c = 590 → i ∉ F) → H' c i = H c i
theorem mF_pup {L F : List Int} {H0 H : PH} {c i v : Int} (h : mF L F H0 H) (hm : c ∈ L ∨ (c = 590 ∧ i ∈ F)) : mF L F H0 (pup H c i v) := by
  intro c' i' h1 h2
  rw [pup_other (fun q => ?_)]
  · exact h c' i' h1 h2
  · obtain ⟨rfl, rfl⟩ := q
    rcases hm with hm | ⟨rfl, hm⟩
    · exact h1 hm
    · exact h2 rfl hm
theorem mF_refl {L F : List Int} {H : PH} : mF L F H H := fun _ _ _ _ => rfl
theorem mF_trans {L F : List Int} {H H1 H2 : PH} (h : mF L F H H1) (h' : mF L F H1 H2) : mF L F H H2 := fun c i a b => (h' c i a b).trans (h c i a b)
theorem mF_mono {L F L' F' : List Int} {H H' : PH} (h : mF L F H H') (hL : ∀ x ∈ L, x ∈ L') (hF : ∀ x ∈ F, x ∈ F') : mF L' F' H H' := fun c i a b => h c i (fun q => a (hL _ q)) (fun e q => b e (hF _ q))
/-- what the places of the model's row may hold -/
def mT (lw : Int → Int) (k x : Int) : Prop := (k = 0 → 0 ≤ x ∧ x ≤ 12) ∧ (k = 1 → 0 ≤ x ∧ x ≤ 8) ∧ (k = 2 → 0 ≤ x ∧ x ≤ 60) ∧ (k = 4 → x ≤ 24) ∧ (10 ≤ k → k < 76 → x = lw k) ∧ (92 ≤ k → k < 404 → ((k - 92) % 26 = 0 → 0 ≤ x ∧ x ≤ 8) ∧ ((k - 92) % 26 = 9 → 0 ≤ x ∧ x ≤ 999) ∧ ((k - 92) % 26 = 10 → 0 ≤ x ∧ x ≤ 9999) ∧ ((k - 92) % 26 = 13 → 0 ≤ x ∧ x ≤ 6)) ∧ (404 ≤ k → k < 1124 → (k - 404) % 12 = 3 → 0 ≤ x ∧ x ≤ 8)
def rT (lw f : Int → Int) : Prop := ∀ k, 0 ≤ k → k < 1124 → mT lw k (f k)
def mA (lw : Int → Int) (H : PH) : Prop := ∀ k, 0 ≤ k → k < 1124 → mT lw k (H 591 k)
theorem mA_up {lw : Int → Int} {H : PH} {c i v : Int} (h : mA lw H) (hv : c ≠ 591 ∨ mT lw i v) : mA lw (pup H c i v) := by
  intro k h0 h1
  by_cases e : (591 : Int) = c ∧ k = i
  · obtain ⟨rfl, rfl⟩ := e
    rw [pup_same]
    exact hv.resolve_left (fun q => q rfl)
  · rw [pup_other e]
    exact h k h0 h1
theorem mA_0 {lw : Int → Int} {H : PH} (h : mA lw H) : 0 ≤ H 591 0 ∧ H 591 0 ≤ 12 := (h 0 (by omega) (by omega)).1 rfl
theorem mA_1 {lw : Int → Int} {H : PH} (h : mA lw H) : 0 ≤ H 591 1 ∧ H 591 1 ≤ 8 := (h 1 (by omega) (by omega)).2.1 rfl
theorem mA_2 {lw : Int → Int} {H : PH} (h : mA lw H) : 0 ≤ H 591 2 ∧ H 591 2 ≤ 60 := (h 2 (by omega) (by omega)).2.2.1 rfl
theorem mA_4 {lw : Int → Int} {H : PH} (h : mA lw H) : H 591 4 ≤ 24 := (h 4 (by omega) (by omega)).2.2.2.1 rfl
theorem mA_lw {lw : Int → Int} {H : PH} (h : mA lw H) {k : Int} (h0 : 10 ≤ k) (h1 : k < 76) : H 591 k = lw k := (h k (by omega) (by omega)).2.2.2.2.1 h0 h1
theorem mA_long {lw : Int → Int} {H : PH} (h : mA lw H) {b : Int} (h0 : 0 ≤ b) (h1 : b ≤ 11) : 0 ≤ H 591 (92 + 26 * b) ∧ H 591 (92 + 26 * b) ≤ 8 := ((h (92 + 26 * b) (by omega) (by omega)).2.2.2.2.2.1 (by omega) (by omega)).1 (by omega)
theorem mA_count {lw : Int → Int} {H : PH} (h : mA lw H) {b : Int} (h0 : 0 ≤ b) (h1 : b ≤ 11) : 0 ≤ H 591 (92 + 26 * b + 9) ∧ H 591 (92 + 26 * b + 9) ≤ 999 := ((h (92 + 26 * b + 9) (by omega) (by omega)).2.2.2.2.2.1 (by omega) (by omega)).2.1 (by omega)
theorem mA_worth {lw : Int → Int} {H : PH} (h : mA lw H) {b : Int} (h0 : 0 ≤ b) (h1 : b ≤ 11) : 0 ≤ H 591 (92 + 26 * b + 10) ∧ H 591 (92 + 26 * b + 10) ≤ 9999 := ((h (92 + 26 * b + 10) (by omega) (by omega)).2.2.2.2.2.1 (by omega) (by omega)).2.2.1 (by omega)
theorem mA_rem {lw : Int → Int} {H : PH} (h : mA lw H) {b : Int} (h0 : 0 ≤ b) (h1 : b ≤ 11) : 0 ≤ H 591 (92 + 26 * b + 13) ∧ H 591 (92 + 26 * b + 13) ≤ 6 := ((h (92 + 26 * b + 13) (by omega) (by omega)).2.2.2.2.2.1 (by omega) (by omega)).2.2.2 (by omega)
theorem mA_seen {lw : Int → Int} {H : PH} (h : mA lw H) {k : Int} (h0 : 0 ≤ k) (h1 : k ≤ 59) : 0 ≤ H 591 (404 + 12 * k + 3) ∧ H 591 (404 + 12 * k + 3) ≤ 8 := (h (404 + 12 * k + 3) (by omega) (by omega)).2.2.2.2.2.2 (by omega) (by omega) (by omega)
theorem mA_mF {lw : Int → Int} {L F : List Int} {H H' : PH} (h : mA lw H) (hF : mF L F H H') (hL : (591 : Int) ∉ L) : mA lw H' := by
  intro k h0 h1
  rw [hF 591 k hL (fun q => by omega)]
  exact h k h0 h1
set_option maxRecDepth 20000 in
set_option maxHeartbeats 4000000 in
theorem lp_X12_readDigits_29 {G : zG} {us : Nat} (m b : Int) (H0 : PH)  (hm : m ≤ 4) : ∀ (n : Nat) (ls : PL) (H : PH) (j : Int), (4 - j).toNat < n → pnl ls → pget ls 0 = some (2, 590) → pget ls 1 = some (0, m) → pget ls 2 = some (0, b) → mF [] [5, 6, 7] H0 H → H 590 4 ≤ 600 → H 590 4 = H0 590 4 → H 590 5 = b + j → 0 ≤ b → 0 ≤ j → j ≤ m → b + j ≤ 600 → ((j = 0 ∧ H 590 7 = 0) ∨ (j = 1 ∧ 0 ≤ H 590 7 ∧ H 590 7 ≤ 9) ∨ (j = 2 ∧ 0 ≤ H 590 7 ∧ H 590 7 ≤ 99) ∨ (j = 3 ∧ 0 ≤ H 590 7 ∧ H 590 7 ≤ 999) ∨ (j = 4 ∧ 0 ≤ H 590 7 ∧ H 590 7 ≤ 9999)) → Tr G us kd_X12_readDigits 2 (zget kd_X12_readDigits 29) 29 ls [] H (fun r H' => H' 590 4 = H0 590 4 ∧ mF [] [5, 6, 7] H0 H' ∧ (b ≤ H' 590 5 ∧ H' 590 5 ≤ 600) ∧ (r = some (0, 0) ∨ (r = some (0, 1) ∧ 0 ≤ H' 590 7 ∧ H' 590 7 ≤ 9999 ∧ (m ≤ 3 → H' 590 7 ≤ 999)))) := by
  intro n
  induction n with
  | zero => intros; omega
  | succ n ih =>
    intro ls H j hn hnl l0 l1 l2 hF ht ht4 hb hb0 hj0 hjm h6 hN
    refine tr_lab (D := 1) (t := 29) vb_X12_readDigits_29 _ ve_X12_readDigits_29 ?_
    simp (maxDischargeDepth := 12) [vb_X12_readDigits_29, wB, wI, k1, kI, kR, kL, k2, pget, pget_pset, pnl_pset, pnl_cons, pnl_nil, parg, ppush, pcat, zw_lit, zw_m1, zw_m2, zw_m3, zNC_eq, zrow, pup_app, gv_590_5, gv_590_7, pe, tg_12_5, tg_12_7, zfit, zisI, sh_590, hnl, l0, l1, l2]
    repeat' (with_reducible (first | (refine And.intro ?_ ?_) | intro _))
    all_goals try (refine Ca_use (ca_X12_here _  (by (try simp [pup_app]); omega) (by (try simp [pup_app]); omega)) (by omega) ?_; rintro _ _ ⟨rfl, rfl, hx⟩; simp (maxDischargeDepth := 12) [wB, wI, k1, kI, kR, kL, k2, pget, pget_pset, pnl_pset, pnl_cons, pnl_nil, parg, ppush, pcat, zw_lit, zw_m1, zw_m2, zw_m3, zNC_eq, zrow, pup_app, gv_590_5, gv_590_7, pe, tg_12_5, tg_12_7, zfit, zisI, sh_590, hnl, l0, l1, l2])
    all_goals repeat' (with_reducible (first | (refine And.intro ?_ ?_) | intro _))
    all_goals try (refine Ca_use (ca_X12_isFigure _ _) (by omega) ?_; rintro _ _ ⟨rfl, rfl⟩; simp (maxDischargeDepth := 12) [wB, wI, k1, kI, kR, kL, k2, pget, pget_pset, pnl_pset, pnl_cons, pnl_nil, parg, ppush, pcat, zw_lit, zw_m1, zw_m2, zw_m3, zNC_eq, zrow, pup_app, gv_590_5, gv_590_7, pe, tg_12_5, tg_12_7, zfit, zisI, sh_590, hnl, l0, l1, l2])
    all_goals repeat' (with_reducible (first | (refine And.intro ?_ ?_) | intro _))
    all_goals try (refine Ca_use (ca_X12_here _  (by (try simp [pup_app]); omega) (by (try simp [pup_app]); omega)) (by omega) ?_; rintro _ _ ⟨rfl, rfl, hx⟩; simp (maxDischargeDepth := 12) [wB, wI, k1, kI, kR, kL, k2, pget, pget_pset, pnl_pset, pnl_cons, pnl_nil, parg, ppush, pcat, zw_lit, zw_m1, zw_m2, zw_m3, zNC_eq, zrow, pup_app, gv_590_5, gv_590_7, pe, tg_12_5, tg_12_7, zfit, zisI, sh_590, hnl, l0, l1, l2])
    all_goals repeat' (with_reducible (first | (refine And.intro ?_ ?_) | intro _))
    all_goals try (refine tr_lab (D := 1) (t := 81) vb_X12_readDigits_81 _ ve_X12_readDigits_81 ?_; simp (maxDischargeDepth := 12) [vb_X12_readDigits_81, wB, wI, k1, kI, kR, kL, k2, pget, pget_pset, pnl_pset, pnl_cons, pnl_nil, parg, ppush, pcat, zw_lit, zw_m1, zw_m2, zw_m3, zNC_eq, zrow, pup_app, gv_590_5, gv_590_7, pe, tg_12_5, tg_12_7, zfit, zisI, sh_590, hnl, l0, l1, l2])
    all_goals repeat' (with_reducible (first | (refine And.intro ?_ ?_) | intro _))
    all_goals try (refine Ca_use (ca_X12_here _  (by (try simp [pup_app]); omega) (by (try simp [pup_app]); omega)) (by omega) ?_; rintro _ _ ⟨rfl, rfl, hx⟩; simp (maxDischargeDepth := 12) [wB, wI, k1, kI, kR, kL, k2, pget, pget_pset, pnl_pset, pnl_cons, pnl_nil, parg, ppush, pcat, zw_lit, zw_m1, zw_m2, zw_m3, zNC_eq, zrow, pup_app, gv_590_5, gv_590_7, pe, tg_12_5, tg_12_7, zfit, zisI, sh_590, hnl, l0, l1, l2])
    all_goals repeat' (with_reducible (first | (refine And.intro ?_ ?_) | intro _))
    all_goals try (refine Ca_use (ca_X12_isFigure _ _) (by omega) ?_; rintro _ _ ⟨rfl, rfl⟩; simp (maxDischargeDepth := 12) [wB, wI, k1, kI, kR, kL, k2, pget, pget_pset, pnl_pset, pnl_cons, pnl_nil, parg, ppush, pcat, zw_lit, zw_m1, zw_m2, zw_m3, zNC_eq, zrow, pup_app, gv_590_5, gv_590_7, pe, tg_12_5, tg_12_7, zfit, zisI, sh_590, hnl, l0, l1, l2])
    all_goals repeat' (with_reducible (first | (refine And.intro ?_ ?_) | intro _))
    all_goals try (refine Ca_use (ca_X12_fails _ _) (by omega) ?_; rintro _ _ ⟨rfl, rfl⟩; simp (maxDischargeDepth := 12) [wB, wI, k1, kI, kR, kL, k2, pget, pget_pset, pnl_pset, pnl_cons, pnl_nil, parg, ppush, pcat, zw_lit, zw_m1, zw_m2, zw_m3, zNC_eq, zrow, pup_app, gv_590_5, gv_590_7, pe, tg_12_5, tg_12_7, zfit, zisI, sh_590, hnl, l0, l1, l2])
    all_goals repeat' (with_reducible (first | (refine And.intro ?_ ?_) | intro _))
    all_goals try (refine tr_lab (D := 1) (t := 102) vb_X12_readDigits_102 _ ve_X12_readDigits_102 ?_; simp (maxDischargeDepth := 12) [vb_X12_readDigits_102, wB, wI, k1, kI, kR, kL, k2, pget, pget_pset, pnl_pset, pnl_cons, pnl_nil, parg, ppush, pcat, zw_lit, zw_m1, zw_m2, zw_m3, zNC_eq, zrow, pup_app, gv_590_5, gv_590_7, pe, tg_12_5, tg_12_7, zfit, zisI, sh_590, hnl, l0, l1, l2])
    all_goals repeat' (with_reducible (first | (refine And.intro ?_ ?_) | intro _))
    all_goals try (refine tr_lab (D := 1) (t := 106) vb_X12_readDigits_106 _ ve_X12_readDigits_106 ?_; simp (maxDischargeDepth := 12) [vb_X12_readDigits_106, wB, wI, k1, kI, kR, kL, k2, pget, pget_pset, pnl_pset, pnl_cons, pnl_nil, parg, ppush, pcat, zw_lit, zw_m1, zw_m2, zw_m3, zNC_eq, zrow, pup_app, gv_590_5, gv_590_7, pe, tg_12_5, tg_12_7, zfit, zisI, sh_590, hnl, l0, l1, l2])
    all_goals repeat' (with_reducible (first | (refine And.intro ?_ ?_) | intro _))
    all_goals try (refine tr_lab (D := 1) (t := 107) vb_X12_readDigits_107 _ ve_X12_readDigits_107 ?_; simp (maxDischargeDepth := 12) [vb_X12_readDigits_107, wB, wI, k1, kI, kR, kL, k2, pget, pget_pset, pnl_pset, pnl_cons, pnl_nil, parg, ppush, pcat, zw_lit, zw_m1, zw_m2, zw_m3, zNC_eq, zrow, pup_app, gv_590_5, gv_590_7, pe, tg_12_5, tg_12_7, zfit, zisI, sh_590, hnl, l0, l1, l2])
    all_goals repeat' (with_reducible (first | (refine And.intro ?_ ?_) | intro _))
    all_goals try (refine ih _ _ (j + 1) ?_ ?_ ?_ ?_ ?_ ?_ ?_ ?_ ?_ ?_ ?_ ?_ ?_ ?_)
    all_goals try simp (maxDischargeDepth := 12) [pget_pset, pnl_pset, pnl_cons, pnl_nil, pget, hnl, pup_app, l0, l1, l2]
    all_goals (first | omega | assumption | ((repeat (first | assumption | exact mF_refl | (refine mF_pup ?_ (by simp)) | (refine mF_step (by assumption) ?_ (by simp) (by simp)) | (refine mA_up ?_ (by first | (exact Or.inl (by decide)) | (exact Or.inr (by unfold mT; omega)))) | (refine mA_mF ?_ (by assumption) (by simp)))); done) | ((simp (disch := omega) only [zw_lit] at *) <;> (first | omega | assumption | ((repeat (first | assumption | exact mF_refl | (refine mF_pup ?_ (by simp)) | (refine mF_step (by assumption) ?_ (by simp) (by simp)) | (refine mA_up ?_ (by first | (exact Or.inl (by decide)) | (exact Or.inr (by unfold mT; omega)))) | (refine mA_mF ?_ (by assumption) (by simp)))); done))) | ((simp (disch := omega) [pup_app, zw_lit] at *) <;> (first | omega | assumption | ((repeat (first | assumption | exact mF_refl | (refine mF_pup ?_ (by simp)) | (refine mF_step (by assumption) ?_ (by simp) (by simp)) | (refine mA_up ?_ (by first | (exact Or.inl (by decide)) | (exact Or.inr (by unfold mT; omega)))) | (refine mA_mF ?_ (by assumption) (by simp)))); done))) | (simp only [zw]; omega))

set_option maxRecDepth 20000 in
set_option maxHeartbeats 4000000 in
theorem ca_X12_readDigits {G : zG} {us : Nat} (m : Int) (H : PH) (ha0 : 0 ≤ H 590 5) (ht : H 590 4 ≤ 600) (ha1 : H 590 5 ≤ 600) (hm1 : 0 ≤ m) (hm : m ≤ 4) : Ca G us 2 169 [(2, 590), (0, m)] H (fun r H' => H' 590 4 = H 590 4 ∧ mF [] [5, 6, 7] H H' ∧ (H 590 5 ≤ H' 590 5 ∧ H' 590 5 ≤ 600) ∧ (r = some (0, 0) ∨ (r = some (0, 1) ∧ 0 ≤ H' 590 7 ∧ H' 590 7 ≤ 9999 ∧ (m ≤ 3 → H' 590 7 ≤ 999)))) := by
  refine ⟨_, _, _, _, _, _, vm_X12_readDigits, by simp [pcat], ?_⟩
  refine tr_lab (D := 1) (t := 0) vb_X12_readDigits_0 _ ve_X12_readDigits_0 ?_
  simp (maxDischargeDepth := 12) [vb_X12_readDigits_0, wB, wI, k1, kI, kR, kL, k2, pget, pget_pset, pnl_pset, pnl_cons, pnl_nil, parg, ppush, pcat, zw_lit, zw_m1, zw_m2, zw_m3, zNC_eq, zrow, pup_app, gv_590_5, gv_590_7, pe, tg_12_5, tg_12_7, zfit, zisI, sh_590]
  repeat' (with_reducible (first | (refine And.intro ?_ ?_) | intro _))
  all_goals try (refine Ca_use (ca_X12_here _  (by (try simp [pup_app]); omega) (by (try simp [pup_app]); omega)) (by omega) ?_; rintro _ _ ⟨rfl, rfl, hx⟩; simp (maxDischargeDepth := 12) [wB, wI, k1, kI, kR, kL, k2, pget, pget_pset, pnl_pset, pnl_cons, pnl_nil, parg, ppush, pcat, zw_lit, zw_m1, zw_m2, zw_m3, zNC_eq, zrow, pup_app, gv_590_5, gv_590_7, pe, tg_12_5, tg_12_7, zfit, zisI, sh_590])
  all_goals repeat' (with_reducible (first | (refine And.intro ?_ ?_) | intro _))
  all_goals try (refine Ca_use (ca_X12_isFigure _ _) (by omega) ?_; rintro _ _ ⟨rfl, rfl⟩; simp (maxDischargeDepth := 12) [wB, wI, k1, kI, kR, kL, k2, pget, pget_pset, pnl_pset, pnl_cons, pnl_nil, parg, ppush, pcat, zw_lit, zw_m1, zw_m2, zw_m3, zNC_eq, zrow, pup_app, gv_590_5, gv_590_7, pe, tg_12_5, tg_12_7, zfit, zisI, sh_590])
  all_goals repeat' (with_reducible (first | (refine And.intro ?_ ?_) | intro _))
  all_goals try (refine Ca_use (ca_X12_fails _ _) (by omega) ?_; rintro _ _ ⟨rfl, rfl⟩; simp (maxDischargeDepth := 12) [wB, wI, k1, kI, kR, kL, k2, pget, pget_pset, pnl_pset, pnl_cons, pnl_nil, parg, ppush, pcat, zw_lit, zw_m1, zw_m2, zw_m3, zNC_eq, zrow, pup_app, gv_590_5, gv_590_7, pe, tg_12_5, tg_12_7, zfit, zisI, sh_590])
  all_goals repeat' (with_reducible (first | (refine And.intro ?_ ?_) | intro _))
  all_goals try (refine tr_lab (D := 1) (t := 19) vb_X12_readDigits_19 _ ve_X12_readDigits_19 ?_; simp (maxDischargeDepth := 12) [vb_X12_readDigits_19, wB, wI, k1, kI, kR, kL, k2, pget, pget_pset, pnl_pset, pnl_cons, pnl_nil, parg, ppush, pcat, zw_lit, zw_m1, zw_m2, zw_m3, zNC_eq, zrow, pup_app, gv_590_5, gv_590_7, pe, tg_12_5, tg_12_7, zfit, zisI, sh_590])
  all_goals repeat' (with_reducible (first | (refine And.intro ?_ ?_) | intro _))
  all_goals try ((refine lp_X12_readDigits_29 m (H 590 5) H hm 5 _ _ 0 ?_ ?_ ?_ ?_ ?_ ?_ ?_ ?_ ?_ ?_ ?_ ?_ ?_ ?_) <;> (try simp [pget_pset, pnl_pset, pnl_cons, pnl_nil, pget, pup_app]))
  all_goals (first | omega | assumption | ((repeat (first | assumption | exact mF_refl | (refine mF_pup ?_ (by simp)) | (refine mF_step (by assumption) ?_ (by simp) (by simp)) | (refine mA_up ?_ (by first | (exact Or.inl (by decide)) | (exact Or.inr (by unfold mT; omega)))) | (refine mA_mF ?_ (by assumption) (by simp)))); done) | ((simp (disch := omega) only [zw_lit] at *) <;> (first | omega | assumption | ((repeat (first | assumption | exact mF_refl | (refine mF_pup ?_ (by simp)) | (refine mF_step (by assumption) ?_ (by simp) (by simp)) | (refine mA_up ?_ (by first | (exact Or.inl (by decide)) | (exact Or.inr (by unfold mT; omega)))) | (refine mA_mF ?_ (by assumption) (by simp)))); done))) | ((simp (disch := omega) [pup_app, zw_lit] at *) <;> (first | omega | assumption | ((repeat (first | assumption | exact mF_refl | (refine mF_pup ?_ (by simp)) | (refine mF_step (by assumption) ?_ (by simp) (by simp)) | (refine mA_up ?_ (by first | (exact Or.inl (by decide)) | (exact Or.inr (by unfold mT; omega)))) | (refine mA_mF ?_ (by assumption) (by simp)))); done))) | (simp only [zw]; omega))

set_option maxRecDepth 20000 in
set_option maxHeartbeats 4000000 in
theorem ca_X12_readCount {G : zG} {us : Nat} (m : Int) (H : PH) (ha0 : 0 ≤ H 590 5) (ht : H 590 4 ≤ 600) (ha1 : H 590 5 ≤ 600) (hm1 : 0 ≤ m) (hm : m ≤ 4) : Ca G us 3 170 [(2, 590), (0, m)] H (fun r H' => H' 590 4 = H 590 4 ∧ mF [] [5, 6, 7] H H' ∧ (H 590 5 ≤ H' 590 5 ∧ H' 590 5 ≤ 600) ∧ (r = some (0, 0) ∨ (r = some (0, 1) ∧ 0 ≤ H' 590 7 ∧ H' 590 7 ≤ 9999 ∧ (m ≤ 3 → H' 590 7 ≤ 999)))) := by
  refine ⟨_, _, _, _, _, _, vm_X12_readCount, by simp [pcat], ?_⟩
  refine tr_lab (D := 2) (t := 0) vb_X12_readCount_0 _ ve_X12_readCount_0 ?_
  simp (maxDischargeDepth := 12) [vb_X12_readCount_0, wB, wI, k1, kI, kR, kL, k2, pget, pget_pset, pnl_pset, pnl_cons, pnl_nil, parg, ppush, pcat, zw_lit, zw_m1, zw_m2, zw_m3, zNC_eq, zrow, pup_app, gv_590_5, tg_12_5, sh_590]
  repeat' (with_reducible (first | (refine And.intro ?_ ?_) | intro _))
  all_goals try (refine Ca_use (ca_X12_here _  (by (try simp [pup_app]); omega) (by (try simp [pup_app]); omega)) (by omega) ?_; rintro _ _ ⟨rfl, rfl, hx⟩; simp (maxDischargeDepth := 12) [wB, wI, k1, kI, kR, kL, k2, pget, pget_pset, pnl_pset, pnl_cons, pnl_nil, parg, ppush, pcat, zw_lit, zw_m1, zw_m2, zw_m3, zNC_eq, zrow, pup_app, gv_590_5, tg_12_5, sh_590])
  all_goals repeat' (with_reducible (first | (refine And.intro ?_ ?_) | intro _))
  all_goals try (refine Ca_use (ca_X12_readDigits _ _  (by first | omega | (simp (disch := omega) [pup_app, zw_lit] <;> omega)) (by first | omega | (simp (disch := omega) [pup_app, zw_lit] <;> omega)) (by first | omega | (simp (disch := omega) [pup_app, zw_lit] <;> omega)) (by omega) (by omega)) (by omega) ?_; rintro _ _ ⟨ht1, hF1, hb1, (rfl | ⟨rfl, hn0, hn1, hn2⟩)⟩; simp (maxDischargeDepth := 12) [wB, wI, k1, kI, kR, kL, k2, pget, pget_pset, pnl_pset, pnl_cons, pnl_nil, parg, ppush, pcat, zw_lit, zw_m1, zw_m2, zw_m3, zNC_eq, zrow, pup_app, gv_590_5, tg_12_5, sh_590])
  all_goals repeat' (with_reducible (first | (refine And.intro ?_ ?_) | intro _))
  all_goals try (refine tr_lab (D := 2) (t := 17) vb_X12_readCount_17 _ ve_X12_readCount_17 ?_; simp (maxDischargeDepth := 12) [vb_X12_readCount_17, wB, wI, k1, kI, kR, kL, k2, pget, pget_pset, pnl_pset, pnl_cons, pnl_nil, parg, ppush, pcat, zw_lit, zw_m1, zw_m2, zw_m3, zNC_eq, zrow, pup_app, gv_590_5, tg_12_5, sh_590])
  all_goals repeat' (with_reducible (first | (refine And.intro ?_ ?_) | intro _))
  all_goals try (refine Ca_use (ca_X12_fails _ _) (by omega) ?_; rintro _ _ ⟨rfl, rfl⟩; simp (maxDischargeDepth := 12) [wB, wI, k1, kI, kR, kL, k2, pget, pget_pset, pnl_pset, pnl_cons, pnl_nil, parg, ppush, pcat, zw_lit, zw_m1, zw_m2, zw_m3, zNC_eq, zrow, pup_app, gv_590_5, tg_12_5, sh_590])
  all_goals repeat' (with_reducible (first | (refine And.intro ?_ ?_) | intro _))
  all_goals try (refine tr_lab (D := 2) (t := 28) vb_X12_readCount_28 _ ve_X12_readCount_28 ?_; simp (maxDischargeDepth := 12) [vb_X12_readCount_28, wB, wI, k1, kI, kR, kL, k2, pget, pget_pset, pnl_pset, pnl_cons, pnl_nil, parg, ppush, pcat, zw_lit, zw_m1, zw_m2, zw_m3, zNC_eq, zrow, pup_app, gv_590_5, tg_12_5, sh_590])
  all_goals repeat' (with_reducible (first | (refine And.intro ?_ ?_) | intro _))
  all_goals try (refine tr_lab (D := 2) (t := 32) vb_X12_readCount_32 _ ve_X12_readCount_32 ?_; simp (maxDischargeDepth := 12) [vb_X12_readCount_32, wB, wI, k1, kI, kR, kL, k2, pget, pget_pset, pnl_pset, pnl_cons, pnl_nil, parg, ppush, pcat, zw_lit, zw_m1, zw_m2, zw_m3, zNC_eq, zrow, pup_app, gv_590_5, tg_12_5, sh_590])
  all_goals repeat' (with_reducible (first | (refine And.intro ?_ ?_) | intro _))
  all_goals try (refine tr_lab (D := 2) (t := 33) vb_X12_readCount_33 _ ve_X12_readCount_33 ?_; simp (maxDischargeDepth := 12) [vb_X12_readCount_33, wB, wI, k1, kI, kR, kL, k2, pget, pget_pset, pnl_pset, pnl_cons, pnl_nil, parg, ppush, pcat, zw_lit, zw_m1, zw_m2, zw_m3, zNC_eq, zrow, pup_app, gv_590_5, tg_12_5, sh_590])
  all_goals repeat' (with_reducible (first | (refine And.intro ?_ ?_) | intro _))
  all_goals (first | omega | assumption | ((repeat (first | assumption | exact mF_refl | (refine mF_pup ?_ (by simp)) | (refine mF_step (by assumption) ?_ (by simp) (by simp)) | (refine mA_up ?_ (by first | (exact Or.inl (by decide)) | (exact Or.inr (by unfold mT; omega)))) | (refine mA_mF ?_ (by assumption) (by simp)))); done) | ((simp (disch := omega) only [zw_lit] at *) <;> (first | omega | assumption | ((repeat (first | assumption | exact mF_refl | (refine mF_pup ?_ (by simp)) | (refine mF_step (by assumption) ?_ (by simp) (by simp)) | (refine mA_up ?_ (by first | (exact Or.inl (by decide)) | (exact Or.inr (by unfold mT; omega)))) | (refine mA_mF ?_ (by assumption) (by simp)))); done))) | ((simp (disch := omega) [pup_app, zw_lit] at *) <;> (first | omega | assumption | ((repeat (first | assumption | exact mF_refl | (refine mF_pup ?_ (by simp)) | (refine mF_step (by assumption) ?_ (by simp) (by simp)) | (refine mA_up ?_ (by first | (exact Or.inl (by decide)) | (exact Or.inr (by unfold mT; omega)))) | (refine mA_mF ?_ (by assumption) (by simp)))); done))) | (simp only [zw]; omega))
