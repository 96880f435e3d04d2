/-! ===== deed, back ===== -/
def SH (H0 H : PH) (k : Int) : Prop := (∀ j, 0 ≤ j → j < k → H 592 j = H0 592 (j + 1124)) ∧ ∀ j, k ≤ j → H 592 j = H0 592 j
theorem SH_next {H0 H : PH} {k : Int} (h : SH H0 H k) : SH H0 (pup H 592 k (H 592 (k + 1124))) (k + 1) := by
  refine ⟨fun j j0 j1 => ?_, fun j j1 => ?_⟩
  · by_cases e : j = k
    · rw [e]
      have : pup H 592 k (H 592 (k + 1124)) 592 k = H 592 (k + 1124) := if_pos ⟨rfl, rfl⟩
      rw [this]
      exact h.2 _ (by omega)
    · have : pup H 592 k (H 592 (k + 1124)) 592 j = H 592 j := if_neg (fun q => e q.2)
      rw [this]
      exact h.1 j j0 (by omega)
  · have : pup H 592 k (H 592 (k + 1124)) 592 j = H 592 j := if_neg (fun q => by have := q.2; omega)
    rw [this]
    exact h.2 j (by omega)
def CP (H0 H : PH) (d k : Int) : Prop := (∀ e, 0 ≤ e → e < d → ROK (fun j => H 592 (1124 * e + j))) ∧ ∀ j, 0 ≤ j → j < k → H 592 (1124 * d + j) = H0 591 j
theorem CP_next {H0 H : PH} {d k : Int} (h : CP H0 H d k) (kk0 : 0 ≤ k) (e : H 591 = H0 591) : CP H0 (pup H 592 (1124 * d + k) (H 591 k)) d (k + 1) := by
  refine ⟨fun e' e0 e1 => ROK_congr (fun j j0 j1 => ?_) (h.1 e' e0 e1), fun j j0 j1 => ?_⟩
  · exact if_neg (fun q => by have := q.2; omega)
  · by_cases c : j = k
    · rw [c, ← e]
      exact if_pos ⟨rfl, rfl⟩
    · have : pup H 592 (1124 * d + k) (H 591 k) 592 (1124 * d + j) = H 592 (1124 * d + j) := if_neg (fun q => by have := q.2; omega)
      rw [this]
      exact h.2 j j0 (by omega)
theorem CP_end {H0 H : PH} {d : Int} {lv : Nat} {g : Nat → Nat → Int} (hW : WT lv g H0) (hM : IM H0) (e : H 591 = H0 591) (h : CP H0 H d 1124) : IM (pup H 590 2 (d + 1)) := by
  refine ⟨?_, fun e' e0 e1 => ?_⟩
  · rw [pup_row (by decide), e]
    exact hM.1
  · have : pup H 590 2 (d + 1) 590 2 = d + 1 := if_pos ⟨rfl, rfl⟩
    rw [this] at e1
    rw [pup_row (by decide)]
    by_cases c : e' = d
    · rw [c]
      exact ROK_congr (fun k a b => h.2 k a b) (ROK_H hW hM)
    · exact h.1 e' e0 (by omega)
theorem CP_0 {H : PH} (hM : IM H) : CP H H (H 590 2) 0 := ⟨hM.2, fun j a b => by omega⟩
theorem CP_sh {H0 H : PH} (hM : IM H0) (hd : H0 590 2 = 20) (h : SH H0 H 21356) : CP H0 (pup H 590 2 19) 19 0 := by
  refine ⟨fun e e0 e1 => ROK_congr (fun j j0 j1 => ?_) (hM.2 (e + 1) (by omega) (by omega)), fun j a b => by omega⟩
  show pup H 590 2 19 592 (1124 * e + j) = H0 592 (1124 * (e + 1) + j)
  rw [pup_row (by decide), h.1 _ (by omega) (by omega), show 1124 * e + j + 1124 = 1124 * (e + 1) + j by omega]

set_option maxRecDepth 20000 in
set_option maxHeartbeats 4000000 in
theorem lp_X12_deed_52 {G : zG} {us : Nat} {g : Nat → Nat → Int} (H0 : PH) (hW0 : WT 2 g H0) (hM : IM H0) (d : Int) (d0 : 0 ≤ d) (d1 : d ≤ 19)   : ∀ (n : Nat) (ls : PL) (H : PH) (k : Int), (1124 - k).toNat < n → pget ls 0 = some (2, 590) → pget ls 1 = some (0, k) → WT 2 g H → frm [33, 3012] H0 H → H 591 = H0 591 → H 590 2 = d → CP H0 H d k → 0 ≤ k → k ≤ 1124 → Tr G us kd_X12_deed 1 (zget kd_X12_deed 52) 52 ls [] H (fun r H' => r = none ∧ WT 2 g H' ∧ frm [33, 3012] H0 H' ∧ IM H') := by
  intro n
  induction n with
  | zero => intros; omega
  | succ n ih =>
    intro ls H k hn  l0 l1 hW hF e591 hd hc kk0 kk1
    have z1 : zw (1124 * d) = 1124 * d := zw_lit (by omega) (by omega)
    have z2 : zw (1124 * d + k) = 1124 * d + k := zw_lit (by omega) (by omega)
    have zk : zw (k + 1) = k + 1 := zw_lit (by omega) (by omega)
    have zd : zw (d + 1) = d + 1 := zw_lit (by omega) (by omega)
    have hin : k < 1124 → -2147483648 ≤ H 591 k ∧ H 591 k ≤ 2147483647 := fun q => in_591 hW kk0 q
    refine tr_lab (D := 0) (t := 52) vb_X12_deed_52 _ ve_X12_deed_52 ?_
    simp (maxDischargeDepth := 12) [vb_X12_deed_52, wB, wI, k1, kI, kR, kL, k2, pget, parg, ppush, pcat, zw_lit, zw_m1, zw_m2, zw_m3, zNC_eq, zrow, pup_app, pget_pss, pget_psx, nlg_some, nlg_none, gv_590_0, gv_590_1, gv_590_2, pe, tg_12_0, tg_12_1, tg_12_2, zfit, zisI, sh_590, sh_591, sh_592, hd, z1, z2, zk, zd, l0, l1]
    repeat' (with_reducible (first | (refine And.intro ?_ ?_) | intro _))
    all_goals try (refine tr_lab (D := 0) (t := 86) vb_X12_deed_86 _ ve_X12_deed_86 ?_; simp (maxDischargeDepth := 12) [vb_X12_deed_86, wB, wI, k1, kI, kR, kL, k2, pget, parg, ppush, pcat, zw_lit, zw_m1, zw_m2, zw_m3, zNC_eq, zrow, pup_app, pget_pss, pget_psx, nlg_some, nlg_none, gv_590_0, gv_590_1, gv_590_2, pe, tg_12_0, tg_12_1, tg_12_2, zfit, zisI, sh_590, sh_591, sh_592, hd, z1, z2, zk, zd, l0, l1])
    all_goals repeat' (with_reducible (first | (refine And.intro ?_ ?_) | intro _))
    all_goals try (refine ih _ _ (k + 1) ?_ ?_ ?_ ?_ ?_ ?_ ?_ ?_ ?_ ?_)
    all_goals try simp (maxDischargeDepth := 12) [pget_pss, pget_psx, nlg_some, nlg_none, pget, pup_app, l0, l1]
    all_goals (first | omega | assumption | ((repeat (first | assumption | exact frm_refl _ _ | (refine w2_592 ?_ (by omega) (by omega) (by omega)) | (refine w2_590_2 ?_ (by omega) (by omega)) | (refine fa_592 ?_ rfl) | (refine ff_590_2 ?_ rfl))); done) | (rw [pup_row (by decide)]; assumption) | (exact CP_next hc kk0 e591) | (exact CP_end hW0 hM e591 (by rw [show (1124 : Int) = k by omega]; exact hc)) | skip)

set_option maxRecDepth 20000 in
set_option maxHeartbeats 4000000 in
theorem lp_X12_deed_11 {G : zG} {us : Nat} {g : Nat → Nat → Int} (H0 : PH) (hW0 : WT 2 g H0) (hM : IM H0) (h20 : H0 590 2 = 20)   : ∀ (n : Nat) (ls : PL) (H : PH) (k : Int), (21356 - k).toNat < n → pget ls 0 = some (2, 590) → pget ls 1 = some (0, k) → WT 2 g H → frm [33, 3012] H0 H → H 591 = H0 591 → H 590 2 = 20 → SH H0 H k → 0 ≤ k → k ≤ 21356 → Tr G us kd_X12_deed 1 (zget kd_X12_deed 11) 11 ls [] H (fun r H' => r = none ∧ WT 2 g H' ∧ frm [33, 3012] H0 H' ∧ IM H') := by
  intro n
  induction n with
  | zero => intros; omega
  | succ n ih =>
    intro ls H k hn  l0 l1 hW hF e591 hd hc kk0 kk1
    have z1 : zw (k + 1124) = k + 1124 := zw_lit (by omega) (by omega)
    have zk : zw (k + 1) = k + 1 := zw_lit (by omega) (by omega)
    have hin : k < 21356 → -2147483648 ≤ H 592 (k + 1124) ∧ H 592 (k + 1124) ≤ 2147483647 := fun q => ra_592 hW (by omega) (by omega)
    refine tr_lab (D := 0) (t := 11) vb_X12_deed_11 _ ve_X12_deed_11 ?_
    simp (maxDischargeDepth := 12) [vb_X12_deed_11, wB, wI, k1, kI, kR, kL, k2, pget, parg, ppush, pcat, zw_lit, zw_m1, zw_m2, zw_m3, zNC_eq, zrow, pup_app, pget_pss, pget_psx, nlg_some, nlg_none, gv_590_0, gv_590_1, gv_590_2, pe, tg_12_0, tg_12_1, tg_12_2, zfit, zisI, sh_590, sh_591, sh_592, hd, z1, zk, l0, l1]
    repeat' (with_reducible (first | (refine And.intro ?_ ?_) | intro _))
    all_goals try (refine tr_lab (D := 0) (t := 40) vb_X12_deed_40 _ ve_X12_deed_40 ?_; simp (maxDischargeDepth := 12) [vb_X12_deed_40, wB, wI, k1, kI, kR, kL, k2, pget, parg, ppush, pcat, zw_lit, zw_m1, zw_m2, zw_m3, zNC_eq, zrow, pup_app, pget_pss, pget_psx, nlg_some, nlg_none, gv_590_0, gv_590_1, gv_590_2, pe, tg_12_0, tg_12_1, tg_12_2, zfit, zisI, sh_590, sh_591, sh_592, hd, z1, zk, l0, l1])
    all_goals repeat' (with_reducible (first | (refine And.intro ?_ ?_) | intro _))
    all_goals try (refine tr_lab (D := 0) (t := 50) vb_X12_deed_50 _ ve_X12_deed_50 ?_; simp (maxDischargeDepth := 12) [vb_X12_deed_50, wB, wI, k1, kI, kR, kL, k2, pget, parg, ppush, pcat, zw_lit, zw_m1, zw_m2, zw_m3, zNC_eq, zrow, pup_app, pget_pss, pget_psx, nlg_some, nlg_none, gv_590_0, gv_590_1, gv_590_2, pe, tg_12_0, tg_12_1, tg_12_2, zfit, zisI, sh_590, sh_591, sh_592, hd, z1, zk, l0, l1])
    all_goals repeat' (with_reducible (first | (refine And.intro ?_ ?_) | intro _))
    all_goals try ((refine lp_X12_deed_52 H0 hW0 hM 19 (by omega) (by omega) 1125 _ _ 0 ?_ ?_ ?_ ?_ ?_ ?_ ?_ ?_ ?_ ?_) <;> (try simp (maxDischargeDepth := 12) [pget_pss, pget_psx, nlg_some, nlg_none, pget, pup_app, l0, hd]))
    all_goals try (refine ih _ _ (k + 1) ?_ ?_ ?_ ?_ ?_ ?_ ?_ ?_ ?_ ?_)
    all_goals try simp (maxDischargeDepth := 12) [pget_pss, pget_psx, nlg_some, nlg_none, pget, pup_app, l0, l1]
    all_goals (first | omega | assumption | ((repeat (first | assumption | exact frm_refl _ _ | (refine w2_592 ?_ (by omega) (by omega) (by omega)) | (refine w2_590_2 ?_ (by omega) (by omega)) | (refine fa_592 ?_ rfl) | (refine ff_590_2 ?_ rfl))); done) | (rw [pup_row (by decide)]; assumption) | (exact SH_next hc) | (exact CP_sh hM h20 (by rw [show (21356 : Int) = k by omega]; exact hc)) | skip)

set_option maxRecDepth 20000 in
set_option maxHeartbeats 4000000 in
theorem ca_X12_deed {G : zG} {us : Nat} {g : Nat → Nat → Int}  (H : PH) (hW : WT 2 g H) (hM : IM H) : Ca G us 1 158 [(2, 590)] H (fun r H' => r = none ∧ WT 2 g H' ∧ frm [33, 3012] H H' ∧ IM H') := by
  have hd := rf_590_2 hW
  refine ⟨_, _, _, _, _, _, vm_X12_deed, by simp [pcat], ?_⟩
  refine tr_lab (D := 0) (t := 0) vb_X12_deed_0 _ ve_X12_deed_0 ?_
  simp (maxDischargeDepth := 12) [vb_X12_deed_0, wB, wI, k1, kI, kR, kL, k2, pget, parg, ppush, pcat, zw_lit, zw_m1, zw_m2, zw_m3, zNC_eq, zrow, pup_app, pget_pss, pget_psx, nlg_some, nlg_none, gv_590_0, gv_590_1, gv_590_2, pe, tg_12_0, tg_12_1, tg_12_2, zfit, zisI, sh_590]
  repeat' (with_reducible (first | (refine And.intro ?_ ?_) | intro _))
  all_goals try ((refine lp_X12_deed_11 H hW hM (by assumption) 21357 _ _ 0 ?_ ?_ ?_ ?_ ?_ ?_ ?_ ?_ ?_ ?_) <;> (try simp (maxDischargeDepth := 12) [pget_pss, pget_psx, nlg_some, nlg_none, pget, pup_app]))
  all_goals try (refine tr_lab (D := 0) (t := 50) vb_X12_deed_50 _ ve_X12_deed_50 ?_; simp (maxDischargeDepth := 12) [vb_X12_deed_50, wB, wI, k1, kI, kR, kL, k2, pget, parg, ppush, pcat, zw_lit, zw_m1, zw_m2, zw_m3, zNC_eq, zrow, pup_app, pget_pss, pget_psx, nlg_some, nlg_none, gv_590_0, gv_590_1, gv_590_2, pe, tg_12_0, tg_12_1, tg_12_2, zfit, zisI, sh_590])
  all_goals repeat' (with_reducible (first | (refine And.intro ?_ ?_) | intro _))
  all_goals try ((refine lp_X12_deed_52 H hW hM (H 590 2) (by omega) (by omega) 1125 _ _ 0 ?_ ?_ ?_ ?_ ?_ ?_ ?_ ?_ ?_ ?_) <;> (try simp (maxDischargeDepth := 12) [pget_pss, pget_psx, nlg_some, nlg_none, pget, pup_app]))
  all_goals (first | omega | assumption | exact frm_refl _ _ | rfl | (exact CP_0 hM) | (exact ⟨fun j a b => by omega, fun j _ => rfl⟩) | skip)

def CB (H0 H : PH) (d k : Int) : Prop := ∀ j, 0 ≤ j → j < k → H 591 j = H0 592 (1124 * d + j)
theorem CB_next {H0 H : PH} {d k : Int} (h : CB H0 H d k) (e : H 592 = H0 592) : CB H0 (pup H 591 k (H 592 (1124 * d + k))) d (k + 1) := by
  intro j j0 j1
  by_cases c : j = k
  · rw [c, ← e]
    exact if_pos ⟨rfl, rfl⟩
  · have : pup H 591 k (H 592 (1124 * d + k)) 591 j = H 591 j := if_neg (fun q => c q.2)
    rw [this]
    exact h j j0 (by omega)
theorem CB_end {H0 H : PH} {d : Int} (hM : IM H0) (d0 : 0 ≤ d) (d1 : d < H0 590 2) (e : H 592 = H0 592) (hd : H 590 2 = d) (h : CB H0 H d 1124) : IM H := by
  refine ⟨lwf_congr (f := fun k : Nat => H0 592 (1124 * d + k)) (fun k a b => h k (by omega) (by omega)) (hM.2 d d0 d1).2, fun e' e0 e1 => ?_⟩
  rw [e]
  exact hM.2 e' e0 (by omega)
theorem fa_591 {md : List Nat} {H : PH} {i v : Int} {H0 : PH} (h : frm md H0 H) (hm : inmdT md 32 = true) : frm md H0 (pup H 591 i v) := frm_up (c := 591) h (zrt_row (by decide) (by decide +kernel)) (by rw [show tau 591 = 32 from rfl]; exact inmd_T hm _)

set_option maxRecDepth 20000 in
set_option maxHeartbeats 4000000 in
theorem lp_X12_back_21 {G : zG} {us : Nat} {g : Nat → Nat → Int} (H0 : PH) (hW0 : WT 2 g H0) (hM : IM H0) (d : Int) (d0 : 0 ≤ d) (d1 : d < H0 590 2) (d2 : d ≤ 19)   : ∀ (n : Nat) (ls : PL) (H : PH) (k : Int), (1124 - k).toNat < n → pget ls 0 = some (2, 590) → pget ls 1 = some (0, k) → WT 2 g H → frm [32, 3012] H0 H → H 592 = H0 592 → H 590 2 = d → CB H0 H d k → 0 ≤ k → k ≤ 1124 → Tr G us kd_X12_back 1 (zget kd_X12_back 21) 21 ls [] H (fun r H' => (∃ x, r = some (0, x)) ∧ WT 2 g H' ∧ frm [32, 3012] H0 H' ∧ IM H') := by
  intro n
  induction n with
  | zero => intros; omega
  | succ n ih =>
    intro ls H k hn  l0 l1 hW hF e592 hd hc kk0 kk1
    have z1 : zw (1124 * d) = 1124 * d := zw_lit (by omega) (by omega)
    have z2 : zw (1124 * d + k) = 1124 * d + k := zw_lit (by omega) (by omega)
    have zk : zw (k + 1) = k + 1 := zw_lit (by omega) (by omega)
    refine tr_lab (D := 0) (t := 21) vb_X12_back_21 _ ve_X12_back_21 ?_
    simp (maxDischargeDepth := 12) [vb_X12_back_21, wB, wI, k1, kI, kR, kL, k2, pget, parg, ppush, pcat, zw_lit, zw_m1, zw_m2, zw_m3, zNC_eq, zrow, pup_app, pget_pss, pget_psx, nlg_some, nlg_none, gv_590_0, gv_590_1, gv_590_2, pe, tg_12_0, tg_12_1, tg_12_2, zfit, zisI, sh_590, sh_591, sh_592, hd, z1, z2, zk, l0, l1]
    repeat' (with_reducible (first | (refine And.intro ?_ ?_) | intro _))
    all_goals try (refine tr_lab (D := 0) (t := 55) vb_X12_back_55 _ ve_X12_back_55 ?_; simp (maxDischargeDepth := 12) [vb_X12_back_55, wB, wI, k1, kI, kR, kL, k2, pget, parg, ppush, pcat, zw_lit, zw_m1, zw_m2, zw_m3, zNC_eq, zrow, pup_app, pget_pss, pget_psx, nlg_some, nlg_none, gv_590_0, gv_590_1, gv_590_2, pe, tg_12_0, tg_12_1, tg_12_2, zfit, zisI, sh_590, sh_591, sh_592, hd, z1, z2, zk, l0, l1])
    all_goals repeat' (with_reducible (first | (refine And.intro ?_ ?_) | intro _))
    all_goals try (refine ih _ _ (k + 1) ?_ ?_ ?_ ?_ ?_ ?_ ?_ ?_ ?_ ?_)
    all_goals try simp (maxDischargeDepth := 12) [pget_pss, pget_psx, nlg_some, nlg_none, pget, pup_app, l0, l1]
    all_goals (first | omega | assumption | (refine WT_wr hW kk0 (by omega) ?_; rw [e592]; exact (hM.2 d d0 d1).1 k kk0 (by omega)) | (exact fa_591 hF rfl) | (rw [pup_row (by decide)]; assumption) | (exact CB_next hc e592) | (exact ⟨_, rfl⟩) | (exact CB_end hM d0 d1 e592 hd (by rw [show (1124 : Int) = k by omega]; exact hc)) | skip)

set_option maxRecDepth 20000 in
set_option maxHeartbeats 4000000 in
theorem ca_X12_back {G : zG} {us : Nat} {g : Nat → Nat → Int}  (H : PH) (hW : WT 2 g H) (hM : IM H) : Ca G us 1 159 [(2, 590)] H (fun r H' => (∃ x, r = some (0, x)) ∧ WT 2 g H' ∧ frm [32, 3012] H H' ∧ IM H') := by
  have hd := rf_590_2 hW
  have zd : zw (H 590 2 - 1) = H 590 2 - 1 := zw_lit (by omega) (by omega)
  refine ⟨_, _, _, _, _, _, vm_X12_back, by simp [pcat], ?_⟩
  refine tr_lab (D := 0) (t := 0) vb_X12_back_0 _ ve_X12_back_0 ?_
  simp (maxDischargeDepth := 12) [vb_X12_back_0, wB, wI, k1, kI, kR, kL, k2, pget, parg, ppush, pcat, zw_lit, zw_m1, zw_m2, zw_m3, zNC_eq, zrow, pup_app, pget_pss, pget_psx, nlg_some, nlg_none, gv_590_0, gv_590_1, gv_590_2, pe, tg_12_0, tg_12_1, tg_12_2, zfit, zisI, sh_590, zd]
  repeat' (with_reducible (first | (refine And.intro ?_ ?_) | intro _))
  all_goals try (refine tr_lab (D := 0) (t := 9) vb_X12_back_9 _ ve_X12_back_9 ?_; simp (maxDischargeDepth := 12) [vb_X12_back_9, wB, wI, k1, kI, kR, kL, k2, pget, parg, ppush, pcat, zw_lit, zw_m1, zw_m2, zw_m3, zNC_eq, zrow, pup_app, pget_pss, pget_psx, nlg_some, nlg_none, gv_590_0, gv_590_1, gv_590_2, pe, tg_12_0, tg_12_1, tg_12_2, zfit, zisI, sh_590, zd])
  all_goals repeat' (with_reducible (first | (refine And.intro ?_ ?_) | intro _))
  all_goals try ((refine lp_X12_back_21 H hW hM (H 590 2 - 1) (by omega) (by omega) (by omega) 1125 _ _ 0 ?_ ?_ ?_ ?_ ?_ ?_ ?_ ?_ ?_ ?_) <;> (try simp (maxDischargeDepth := 12) [pget_pss, pget_psx, nlg_some, nlg_none, pget, pup_app]))
  all_goals (first | omega | assumption | exact frm_refl _ _ | rfl | (exact ⟨_, rfl⟩) | (exact w2_590_2 hW (by omega) (by omega)) | (exact ff_590_2 (frm_refl _ _) rfl) | (exact fun j a b => by omega) | (rw [pup_row (by decide)]) | skip)

