/-! ===== the model's text ===== -/
theorem rt594 {H H' : PH} (h : frm [32, 6012, 7012, 8012] H H') : H' 594 = H 594 := funext fun j => by
  have e := h 594 j (by decide) (by
    rw [show tau 594 = 79 from rfl]
    rfl)
  have e1 : ∀ X : PH, gv X ((594 : Nat) : Int) j = X 594 j := fun X => gv_none (zrt_row (c := 594) (by decide) (by decide +kernel))
  rw [e1, e1] at e
  exact e
theorem rt592 {H H' : PH} (h : frm [32, 6012, 7012, 8012] H H') : H' 592 = H 592 := funext fun j => by
  have e := h 592 j (by decide) (by
    rw [show tau 592 = 33 from rfl]
    rfl)
  have e1 : ∀ X : PH, gv X ((592 : Nat) : Int) j = X 592 j := fun X => gv_none (zrt_row (c := 592) (by decide) (by decide +kernel))
  rw [e1, e1] at e
  exact e
theorem rd594 {H H' : PH} (h : frm [33, 3012] H H') : H' 594 = H 594 := funext fun j => by
  have e := h 594 j (by decide) (by
    rw [show tau 594 = 79 from rfl]
    rfl)
  have e1 : ∀ X : PH, gv X ((594 : Nat) : Int) j = X 594 j := fun X => gv_none (zrt_row (c := 594) (by decide) (by decide +kernel))
  rw [e1, e1] at e
  exact e
theorem ca_text_read {G : zG} {us : Nat} {g : Nat → Nat → Int} (H : PH) (hW : WT 2 g H) (hM : IM H) : Ca G us 5 180 [(2, 590)] H (fun r H' => WT 2 g H' ∧ (∀ X : PH, frm [32, 33, 79, 3012, 5012, 6012, 7012, 8012] X H → frm [32, 33, 79, 3012, 5012, 6012, 7012, 8012] X H') ∧ IM H' ∧ H' 594 = H 594 ∧ ∃ x, r = some (0, x) ∧ 0 ≤ x ∧ x ≤ 1) :=
  Ca_mono (by decide) (fun r H' q => ⟨WT_two q.1, fun X hX => frm_trans hX (frm_sub rfl q.2.2.2.1), IM_same hW (SM_frz q.1).1 hM, rt594 q.2.2.2.1, rok_int q.2.1⟩) (ct_X12_readText G us (gH H) H _ (GOK_gH hM) (WT_self hW) ⟨sref 590 (by decide) rfl, trivial⟩ (fun f hf => by cases hf))
theorem ca_text_deed {G : zG} {us : Nat} {g : Nat → Nat → Int} (H : PH) (hW : WT 2 g H) (hM : IM H) : Ca G us 1 158 [(2, 590)] H (fun r H' => r = none ∧ WT 2 g H' ∧ (∀ X : PH, frm [32, 33, 79, 3012, 5012, 6012, 7012, 8012] X H → frm [32, 33, 79, 3012, 5012, 6012, 7012, 8012] X H') ∧ IM H' ∧ H' 594 = H 594 ∧ H' 590 4 = H 590 4) :=
  Ca_mono (Nat.le_refl _) (fun r H' q => ⟨q.1, q.2.1, fun X hX => frm_trans hX (frm_sub rfl q.2.2.1), q.2.2.2, rd594 q.2.2.1, q.2.2.1 590 4 (by decide) rfl⟩) (ca_X12_deed H hW hM)
def AH (A : Int → Int) (H : PH) (k : Int) : Prop := ∀ j, 0 ≤ j → j < k → H 594 j = A j
theorem AH_next {A : Int → Int} {H : PH} {k : Int} (h : AH A H k) (e : H 591 = A) : AH A (pup H 594 k (H 591 k)) (k + 1) := by
  intro j j0 j1
  by_cases c : j = k
  · rw [c, ← e]
    exact if_pos ⟨rfl, rfl⟩
  · have : pup H 594 k (H 591 k) 594 j = H 594 j := if_neg (fun q => c q.2)
    rw [this]
    exact h j j0 (by omega)
def SWP (A N : Int → Int) (H : PH) (k : Int) : Prop := ∀ j, 0 ≤ j → j < 1124 → (j < k → H 591 j = A j ∧ H 594 j = N j) ∧ (k ≤ j → H 591 j = N j ∧ H 594 j = A j)
theorem SWP_next {A N : Int → Int} {H : PH} {k : Int} (h : SWP A N H k) : SWP A N (pup (pup H 591 k (H 594 k)) 594 k (H 591 k)) (k + 1) := by
  intro j j0 j1
  have h1 := h j j0 j1
  by_cases c : j = k
  · subst c
    have e1 : pup (pup H 591 j (H 594 j)) 594 j (H 591 j) 591 j = H 594 j := by
      rw [pup_row (by decide)]
      exact if_pos ⟨rfl, rfl⟩
    have e2 : pup (pup H 591 j (H 594 j)) 594 j (H 591 j) 594 j = H 591 j := if_pos ⟨rfl, rfl⟩
    have h2 := h1.2 (Int.le_refl _)
    exact ⟨fun _ => ⟨e1.trans h2.2, e2.trans h2.1⟩, fun q => by omega⟩
  · have e1 : pup (pup H 591 k (H 594 k)) 594 k (H 591 k) 591 j = H 591 j := by
      rw [pup_row (by decide)]
      exact if_neg (fun q => c q.2)
    have e2 : pup (pup H 591 k (H 594 k)) 594 k (H 591 k) 594 j = H 594 j := by
      have : pup (pup H 591 k (H 594 k)) 594 k (H 591 k) 594 j = (pup H 591 k (H 594 k)) 594 j := if_neg (fun q => c q.2)
      rw [this, pup_row (by decide)]
    rw [e1, e2]
    exact ⟨fun q => h1.1 (by omega), fun q => h1.2 (by omega)⟩
/-- what is kept is like rows of the model -/
def KP (H : PH) : Prop := ∀ d, 0 ≤ d → d < H 590 2 → ROK (fun k => H 592 (1124 * d + k))
theorem KP_up {H : PH} {c i v : Int} (h : KP H) (hc : c = 591 ∨ c = 594 ∨ (c = 590 ∧ i = 4)) : KP (pup H c i v) := by
  intro d d0 d1
  have e1 : pup H c i v 590 2 = H 590 2 := if_neg (fun q => by have := q.1; have := q.2; omega)
  have e2 : pup H c i v 592 = H 592 := pup_row (by omega)
  rw [e1] at d1
  rw [e2]
  exact h d d0 d1
theorem SWP_end {A N : Int → Int} {H : PH} (hA : ROK A) (h : SWP A N H 1124) (hK : KP H) : IM H ∧ AH N H 1124 := ⟨⟨lwf_congr (f := fun k : Nat => A k) (fun k a b => ((h k (by omega) (by omega)).1 (by omega)).1) hA.2, hK⟩, fun j a b => ((h j a b).1 b).2⟩
def CN (N : Int → Int) (H : PH) (k : Int) : Prop := ∀ j, 0 ≤ j → j < k → H 591 j = N j
theorem CN_next {N : Int → Int} {H : PH} {k : Int} (h : CN N H k) (kk0 : 0 ≤ k) (kk1 : k < 1124) (hA : AH N H 1124) : CN N (pup H 591 k (H 594 k)) (k + 1) := by
  intro j j0 j1
  by_cases c : j = k
  · rw [c, ← hA k kk0 kk1]
    exact if_pos ⟨rfl, rfl⟩
  · have : pup H 591 k (H 594 k) 591 j = H 591 j := if_neg (fun q => c q.2)
    rw [this]
    exact h j j0 (by omega)
theorem AH_up {N : Int → Int} {H : PH} {c i v k : Int} (h : AH N H k) (hc : c ≠ 594) : AH N (pup H c i v) k := by
  intro j a b
  rw [pup_row (fun q => hc q.symm)]
  exact h j a b
theorem CN_end {N : Int → Int} {H : PH} (hN : ROK N) (h : CN N H 1124) (hK : KP H) : IM H := ⟨lwf_congr (f := fun k : Nat => N k) (fun k a b => h k (by omega) (by omega)) hN.2, hK⟩

set_option maxRecDepth 20000 in
set_option maxHeartbeats 4000000 in
theorem lp_X12_text_111 {G : zG} {us : Nat} {g : Nat → Nat → Int} (H0 : PH) (N : Int → Int) (hN : ROK N) (c : Int)   : ∀ (n : Nat) (ls : PL) (H : PH) (k : Int), (1124 - k).toNat < n → pget ls 0 = some (2, 590) → pget ls 3 = some (0, c) → pget ls 4 = some (0, k) → WT 2 g H → frm [32, 33, 79, 3012, 5012, 6012, 7012, 8012] H0 H → H 590 4 = 0 → KP H → AH N H 1124 → CN N H k → 0 ≤ k → k ≤ 1124 → Tr G us kd_X12_text 6 (zget kd_X12_text 111) 111 ls [] H (fun r H' => (∃ x, r = some (0, x)) ∧ WT 2 g H' ∧ frm [32, 33, 79, 3012, 5012, 6012, 7012, 8012] H0 H' ∧ IM H' ∧ H' 590 4 = 0) := by
  intro n
  induction n with
  | zero => intros; omega
  | succ n ih =>
    intro ls H k hn  l0 l3 l4 hW hF h4 hK hH hc kk0 kk1
    have zk : zw (k + 1) = k + 1 := zw_lit (by omega) (by omega)
    refine tr_lab (D := 5) (t := 111) vb_X12_text_111 _ ve_X12_text_111 ?_
    simp (maxDischargeDepth := 12) [vb_X12_text_111, wB, wI, k1, kI, kR, kL, k2, pget, parg, ppush, pcat, zw_lit, zw_m1, zw_m2, zw_m3, zNC_eq, zrow, pup_app, pget_pss, pget_psx, nlg_some, nlg_none, gv_590_0, gv_590_8, pe, tg_12_0, tg_12_4, tg_12_8, zfit, zisI, sh_590, sh_591, sh_594, zk, l0, l3, l4]
    repeat' (with_reducible (first | (refine And.intro ?_ ?_) | intro _))
    all_goals try (refine tr_lab (D := 5) (t := 139) vb_X12_text_139 _ ve_X12_text_139 ?_; simp (maxDischargeDepth := 12) [vb_X12_text_139, wB, wI, k1, kI, kR, kL, k2, pget, parg, ppush, pcat, zw_lit, zw_m1, zw_m2, zw_m3, zNC_eq, zrow, pup_app, pget_pss, pget_psx, nlg_some, nlg_none, gv_590_0, gv_590_8, pe, tg_12_0, tg_12_4, tg_12_8, zfit, zisI, sh_590, sh_591, sh_594, zk, l0, l3, l4])
    all_goals repeat' (with_reducible (first | (refine And.intro ?_ ?_) | intro _))
    all_goals try (refine ih _ _ (k + 1) ?_ ?_ ?_ ?_ ?_ ?_ ?_ ?_ ?_ ?_ ?_ ?_)
    all_goals try simp (maxDischargeDepth := 12) [pget_pss, pget_psx, nlg_some, nlg_none, pget, pup_app, l0, l3, l4]
    all_goals (first | omega | assumption | (exact ⟨_, rfl⟩) | (refine WT_wr hW kk0 (by omega) ?_; rw [hH k kk0 (by omega)]; exact hN.1 k kk0 (by omega)) | (exact fa_591 hF rfl) | (exact KP_up hK (Or.inl rfl)) | (exact AH_up hH (by decide)) | (exact CN_next hc kk0 (by omega) hH) | (exact CN_end hN (by rw [show (1124 : Int) = k by omega]; exact hc) hK) | skip)

set_option maxRecDepth 20000 in
set_option maxHeartbeats 4000000 in
theorem sg_X12_text_98 {G : zG} {us : Nat} {g : Nat → Nat → Int} (H0 : PH) (A N : Int → Int) (hA : ROK A) (hN : ROK N) (b c : Int)  : ∀ (ls : PL) (H : PH), pget ls 0 = some (2, 590) → pget ls 2 = some (0, b) → pget ls 3 = some (0, c) → WT 2 g H → frm [32, 33, 79, 3012, 5012, 6012, 7012, 8012] H0 H → H 590 4 = 0 → IM H → AH N H 1124 → Tr G us kd_X12_text 6 (zget kd_X12_text 98) 98 ls [] H (fun r H' => (∃ x, r = some (0, x)) ∧ WT 2 g H' ∧ frm [32, 33, 79, 3012, 5012, 6012, 7012, 8012] H0 H' ∧ IM H' ∧ H' 590 4 = 0) := by
  intro ls H  l0 l2 l3 hW hF h4 hM hH
  refine tr_lab (D := 5) (t := 98) vb_X12_text_98 _ ve_X12_text_98 ?_
  simp (maxDischargeDepth := 12) [vb_X12_text_98, wB, wI, k1, kI, kR, kL, k2, pget, parg, ppush, pcat, zw_lit, zw_m1, zw_m2, zw_m3, zNC_eq, zrow, pup_app, pget_pss, pget_psx, nlg_some, nlg_none, gv_590_0, gv_590_8, pe, tg_12_0, tg_12_4, tg_12_8, zfit, zisI, sh_590, l0, l2, l3]
  repeat' (with_reducible (first | (refine And.intro ?_ ?_) | intro _))
  all_goals try (refine tr_lab (D := 5) (t := 104) vb_X12_text_104 _ ve_X12_text_104 ?_; simp (maxDischargeDepth := 12) [vb_X12_text_104, wB, wI, k1, kI, kR, kL, k2, pget, parg, ppush, pcat, zw_lit, zw_m1, zw_m2, zw_m3, zNC_eq, zrow, pup_app, pget_pss, pget_psx, nlg_some, nlg_none, gv_590_0, gv_590_8, pe, tg_12_0, tg_12_4, tg_12_8, zfit, zisI, sh_590, l0, l2, l3])
  all_goals repeat' (with_reducible (first | (refine And.intro ?_ ?_) | intro _))
  all_goals try (refine Ca_use (ca_text_deed _ (by assumption) (by assumption)) (by omega) ?_; rintro _ _ ⟨rfl, hW2, hF2, hM2, e594, e4⟩; simp (maxDischargeDepth := 12) [wB, wI, k1, kI, kR, kL, k2, pget, parg, ppush, pcat, zw_lit, zw_m1, zw_m2, zw_m3, zNC_eq, zrow, pup_app, pget_pss, pget_psx, nlg_some, nlg_none, gv_590_0, gv_590_8, pe, tg_12_0, tg_12_4, tg_12_8, zfit, zisI, sh_590, l0, l2, l3])
  all_goals repeat' (with_reducible (first | (refine And.intro ?_ ?_) | intro _))
  all_goals try ((refine lp_X12_text_111 H0 N hN c 1125 _ _ 0 ?_ ?_ ?_ ?_ ?_ ?_ ?_ ?_ ?_ ?_ ?_ ?_) <;> (try simp (maxDischargeDepth := 12) [pget_pss, pget_psx, nlg_some, nlg_none, pget, pup_app, l0, l3]))
  all_goals (first | omega | assumption | (exact ⟨_, rfl⟩) | (exact hF2 _ hF) | (exact hM2.2) | (exact fun j a b => by omega) | (intro j a b; rw [e594]; exact hH j a b) | skip)

set_option maxRecDepth 20000 in
set_option maxHeartbeats 4000000 in
theorem lp_X12_text_52 {G : zG} {us : Nat} {g : Nat → Nat → Int} (H0 : PH) (A N : Int → Int) (hA : ROK A) (hN : ROK N) (b c : Int)   : ∀ (n : Nat) (ls : PL) (H : PH) (k : Int), (1124 - k).toNat < n → pget ls 0 = some (2, 590) → pget ls 2 = some (0, b) → pget ls 3 = some (0, c) → pget ls 4 = some (0, k) → WT 2 g H → frm [32, 33, 79, 3012, 5012, 6012, 7012, 8012] H0 H → H 590 4 = 0 → KP H → SWP A N H k → 0 ≤ k → k ≤ 1124 → Tr G us kd_X12_text 6 (zget kd_X12_text 52) 52 ls [] H (fun r H' => (∃ x, r = some (0, x)) ∧ WT 2 g H' ∧ frm [32, 33, 79, 3012, 5012, 6012, 7012, 8012] H0 H' ∧ IM H' ∧ H' 590 4 = 0) := by
  intro n
  induction n with
  | zero => intros; omega
  | succ n ih =>
    intro ls H k hn  l0 l2 l3 l4 hW hF h4 hK hc kk0 kk1
    have zk : zw (k + 1) = k + 1 := zw_lit (by omega) (by omega)
    have hq : k < 1124 → H 591 k = N k ∧ H 594 k = A k := fun q => (hc k kk0 q).2 (Int.le_refl _)
    have hin : k < 1124 → -2147483648 ≤ H 591 k ∧ H 591 k ≤ 2147483647 := fun q => in_591 hW kk0 q
    refine tr_lab (D := 5) (t := 52) vb_X12_text_52 _ ve_X12_text_52 ?_
    simp (maxDischargeDepth := 12) [vb_X12_text_52, wB, wI, k1, kI, kR, kL, k2, pget, parg, ppush, pcat, zw_lit, zw_m1, zw_m2, zw_m3, zNC_eq, zrow, pup_app, pget_pss, pget_psx, nlg_some, nlg_none, gv_590_0, gv_590_8, pe, tg_12_0, tg_12_4, tg_12_8, zfit, zisI, sh_590, sh_591, sh_594, zk, l0, l2, l3, l4]
    repeat' (with_reducible (first | (refine And.intro ?_ ?_) | intro _))
    all_goals try ((refine sg_X12_text_98 H0 A N hA hN b c _ _ ?_ ?_ ?_ ?_ ?_ ?_ ?_ ?_) <;> (try simp (maxDischargeDepth := 12) [pget_pss, pget_psx, nlg_some, nlg_none, pget, pup_app, l0, l2, l3]))
    all_goals try (refine ih _ _ (k + 1) ?_ ?_ ?_ ?_ ?_ ?_ ?_ ?_ ?_ ?_ ?_ ?_)
    all_goals try simp (maxDischargeDepth := 12) [pget_pss, pget_psx, nlg_some, nlg_none, pget, pup_app, l0, l2, l3, l4]
    all_goals (first | omega | assumption | (refine wa_594 (WT_wr hW kk0 (by omega) ?_) (by omega) (by omega) (by omega); rw [(hq (by omega)).2]; exact hA.1 k kk0 (by omega)) | (exact fa_594 (fa_591 hF rfl) rfl) | (exact KP_up (KP_up hK (Or.inl rfl)) (Or.inr (Or.inl rfl))) | (exact SWP_next hc) | (exact (SWP_end hA (by rw [show (1124 : Int) = k by omega]; exact hc) hK).1) | (exact (SWP_end hA (by rw [show (1124 : Int) = k by omega]; exact hc) hK).2) | skip)

theorem SWP_0 {A : Int → Int} {H H2 : PH} {v : Int} (h : AH A H 1124) (e : H2 594 = H 594) : SWP A (H2 591) (pup H2 590 4 v) 0 := by
  intro j a b
  refine ⟨fun q => by omega, fun _ => ⟨rfl, ?_⟩⟩
  rw [pup_row (by decide), e]
  exact h j a b

set_option maxRecDepth 20000 in
set_option maxHeartbeats 4000000 in
theorem sg_X12_text_32 {G : zG} {us : Nat} {g : Nat → Nat → Int} (H0 : PH) (A : Int → Int) (hA : ROK A) (w : Int)  : ∀ (ls : PL) (H : PH), pget ls 0 = some (2, 590) → pget ls 1 = some (0, w) → WT 2 g H → frm [32, 33, 79, 3012, 5012, 6012, 7012, 8012] H0 H → IM H → AH A H 1124 → Tr G us kd_X12_text 6 (zget kd_X12_text 32) 32 ls [] H (fun r H' => (∃ x, r = some (0, x)) ∧ WT 2 g H' ∧ frm [32, 33, 79, 3012, 5012, 6012, 7012, 8012] H0 H' ∧ IM H' ∧ H' 590 4 = 0) := by
  intro ls H  l0 l1 hW hF hM hH
  refine tr_lab (D := 5) (t := 32) vb_X12_text_32 _ ve_X12_text_32 ?_
  simp (maxDischargeDepth := 12) [vb_X12_text_32, wB, wI, k1, kI, kR, kL, k2, pget, parg, ppush, pcat, zw_lit, zw_m1, zw_m2, zw_m3, zNC_eq, zrow, pup_app, pget_pss, pget_psx, nlg_some, nlg_none, gv_590_0, gv_590_8, pe, tg_12_0, tg_12_4, tg_12_8, zfit, zisI, sh_590, l0, l1]
  repeat' (with_reducible (first | (refine And.intro ?_ ?_) | intro _))
  all_goals try (refine Ca_use (ca_text_read _ (by assumption) (by assumption)) (by omega) ?_; rintro _ _ ⟨hW2, hF2, hM2, e594, x, rfl, x0, x1⟩; simp (maxDischargeDepth := 12) [wB, wI, k1, kI, kR, kL, k2, pget, parg, ppush, pcat, zw_lit, zw_m1, zw_m2, zw_m3, zNC_eq, zrow, pup_app, pget_pss, pget_psx, nlg_some, nlg_none, gv_590_0, gv_590_8, pe, tg_12_0, tg_12_4, tg_12_8, zfit, zisI, sh_590, l0, l1])
  all_goals repeat' (with_reducible (first | (refine And.intro ?_ ?_) | intro _))
  all_goals try (refine Ca_use (ca_X12_countItems _) (by omega) ?_; rintro _ _ ⟨rfl, y, rfl⟩; simp (maxDischargeDepth := 12) [wB, wI, k1, kI, kR, kL, k2, pget, parg, ppush, pcat, zw_lit, zw_m1, zw_m2, zw_m3, zNC_eq, zrow, pup_app, pget_pss, pget_psx, nlg_some, nlg_none, gv_590_0, gv_590_8, pe, tg_12_0, tg_12_4, tg_12_8, zfit, zisI, sh_590, l0, l1])
  all_goals repeat' (with_reducible (first | (refine And.intro ?_ ?_) | intro _))
  all_goals try ((refine lp_X12_text_52 H0 A _ hA (ROK_H hW2 hM2) x (zw (y - w)) 1125 _ _ 0 ?_ ?_ ?_ ?_ ?_ ?_ ?_ ?_ ?_ ?_ ?_ ?_) <;> (try simp (maxDischargeDepth := 12) [pget_pss, pget_psx, nlg_some, nlg_none, pget, pup_app, l0, l1]))
  all_goals (first | omega | assumption | (exact w2_590_4 hW2 (by omega) (by omega)) | (exact ff_590_4 (hF2 _ hF) rfl) | (exact KP_up hM2.2 (Or.inr (Or.inr ⟨rfl, rfl⟩))) | (exact SWP_0 hH e594) | skip)

set_option maxRecDepth 20000 in
set_option maxHeartbeats 4000000 in
theorem lp_X12_text_7 {G : zG} {us : Nat} {g : Nat → Nat → Int} (H0 : PH) (hM : IM H0) (hW0 : WT 2 g H0) (w : Int)   : ∀ (n : Nat) (ls : PL) (H : PH) (k : Int), (1124 - k).toNat < n → pget ls 0 = some (2, 590) → pget ls 1 = some (0, w) → pget ls 2 = some (0, k) → WT 2 g H → frm [32, 33, 79, 3012, 5012, 6012, 7012, 8012] H0 H → H 591 = H0 591 → IM H → AH (H0 591) H k → 0 ≤ k → k ≤ 1124 → Tr G us kd_X12_text 6 (zget kd_X12_text 7) 7 ls [] H (fun r H' => (∃ x, r = some (0, x)) ∧ WT 2 g H' ∧ frm [32, 33, 79, 3012, 5012, 6012, 7012, 8012] H0 H' ∧ IM H' ∧ H' 590 4 = 0) := by
  intro n
  induction n with
  | zero => intros; omega
  | succ n ih =>
    intro ls H k hn  l0 l1 l2 hW hF e591 hI hc kk0 kk1
    have zk : zw (k + 1) = k + 1 := zw_lit (by omega) (by omega)
    have hin : k < 1124 → -2147483648 ≤ H 591 k ∧ H 591 k ≤ 2147483647 := fun q => in_591 hW kk0 q
    refine tr_lab (D := 5) (t := 7) vb_X12_text_7 _ ve_X12_text_7 ?_
    simp (maxDischargeDepth := 12) [vb_X12_text_7, wB, wI, k1, kI, kR, kL, k2, pget, parg, ppush, pcat, zw_lit, zw_m1, zw_m2, zw_m3, zNC_eq, zrow, pup_app, pget_pss, pget_psx, nlg_some, nlg_none, gv_590_0, gv_590_8, pe, tg_12_0, tg_12_4, tg_12_8, zfit, zisI, sh_590, sh_591, sh_594, zk, l0, l1, l2]
    repeat' (with_reducible (first | (refine And.intro ?_ ?_) | intro _))
    all_goals try ((refine sg_X12_text_32 H0 (H0 591) (ROK_H hW0 hM) w _ _ ?_ ?_ ?_ ?_ ?_ ?_) <;> (try simp (maxDischargeDepth := 12) [pget_pss, pget_psx, nlg_some, nlg_none, pget, pup_app, l0, l1]))
    all_goals try (refine ih _ _ (k + 1) ?_ ?_ ?_ ?_ ?_ ?_ ?_ ?_ ?_ ?_ ?_)
    all_goals try simp (maxDischargeDepth := 12) [pget_pss, pget_psx, nlg_some, nlg_none, pget, pup_app, l0, l1, l2]
    all_goals (first | omega | assumption | (exact wa_594 hW (by omega) (by omega) (by omega)) | (exact fa_594 hF rfl) | (rw [pup_row (by decide)]; assumption) | (exact AH_next hc e591) | (rw [show (1124 : Int) = k by omega]; exact hc) | (exact ⟨by rw [pup_row (by decide)]; exact hI.1, KP_up hI.2 (Or.inr (Or.inl rfl))⟩) | skip)

set_option maxRecDepth 20000 in
set_option maxHeartbeats 4000000 in
theorem ca_X12_text {G : zG} {us : Nat} {g : Nat → Nat → Int}  (H : PH) (hW : WT 2 g H) (hM : IM H) : Ca G us 6 182 [(2, 590)] H (fun r H' => (∃ x, r = some (0, x)) ∧ WT 2 g H' ∧ frm [32, 33, 79, 3012, 5012, 6012, 7012, 8012] H H' ∧ IM H' ∧ H' 590 4 = 0) := by
  refine ⟨_, _, _, _, _, _, vm_X12_text, by simp [pcat], ?_⟩
  refine tr_lab (D := 5) (t := 0) vb_X12_text_0 _ ve_X12_text_0 ?_
  simp (maxDischargeDepth := 12) [vb_X12_text_0, wB, wI, k1, kI, kR, kL, k2, pget, parg, ppush, pcat, zw_lit, zw_m1, zw_m2, zw_m3, zNC_eq, zrow, pup_app, pget_pss, pget_psx, nlg_some, nlg_none, gv_590_0, gv_590_8, pe, tg_12_0, tg_12_4, tg_12_8, zfit, zisI, sh_590]
  repeat' (with_reducible (first | (refine And.intro ?_ ?_) | intro _))
  all_goals try (refine Ca_use (ca_X12_countItems _) (by omega) ?_; rintro _ _ ⟨rfl, y, rfl⟩; simp (maxDischargeDepth := 12) [wB, wI, k1, kI, kR, kL, k2, pget, parg, ppush, pcat, zw_lit, zw_m1, zw_m2, zw_m3, zNC_eq, zrow, pup_app, pget_pss, pget_psx, nlg_some, nlg_none, gv_590_0, gv_590_8, pe, tg_12_0, tg_12_4, tg_12_8, zfit, zisI, sh_590])
  all_goals repeat' (with_reducible (first | (refine And.intro ?_ ?_) | intro _))
  all_goals try ((refine lp_X12_text_7 H hM hW y 1125 _ _ 0 ?_ ?_ ?_ ?_ ?_ ?_ ?_ ?_ ?_ ?_ ?_) <;> (try simp (maxDischargeDepth := 12) [pget_pss, pget_psx, nlg_some, nlg_none, pget, pup_app]))
  all_goals (first | omega | assumption | exact frm_refl _ _ | rfl | (exact fun j a b => by omega) | skip)

