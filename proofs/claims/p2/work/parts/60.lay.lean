/-! ===== laySettled ===== -/
theorem rok_int {lo hi : Int} {s : Nat} {r : Option pv} (h : rok (some (0, lo, hi, s)) r) : ∃ x, r = some (0, x) ∧ lo ≤ x ∧ x ≤ hi := by
  match r, h with
  | some p, h =>
    obtain ⟨x, rfl, h1, h2, _⟩ := arg_int h
    exact ⟨x, rfl, h1, h2⟩
theorem ca_X12_takes_ {G : zG} {us : Nat} {g : Nat → Nat → Int} (hg : GOK g) (i b s : Int) (H : PH) (hW : WT 0 g H) (i0 : 0 ≤ i) (i1 : i ≤ 4) (b0 : 0 ≤ b) (b1 : b ≤ 11) (s0 : -1 ≤ s) (s1 : s ≤ 1) : Ca G us 4 262 [(2, 590), (0, i), (0, b), (0, s)] H (fun r H' => WT 0 g H' ∧ frm [83, 88, 89] H H' ∧ ∃ x, r = some (0, x) ∧ -2147483648 ≤ x ∧ x ≤ 2147483647) :=
  Ca_mono (by decide) (fun r H' q => ⟨q.1, q.2.2.2.1, rok_int q.2.1⟩) (ct_X12_takes_ G us g H _ hg hW ⟨sref 590 (by decide) rfl, vin i0 i1, vin b0 b1, vin s0 s1, trivial⟩ (fun f hf => by cases hf))
def ms (t : Int → Int) (i : Int) : Int := (if 0 ≤ i then 38416 * (12 - t 0) else 0) + (if 1 ≤ i then 2744 * (12 - t 1) else 0) + (if 2 ≤ i then 196 * (12 - t 2) else 0) + (if 3 ≤ i then 14 * (12 - t 3) else 0) + (if 4 ≤ i then (12 - t 4) else 0)
def tok (t : Int → Int) (i : Int) : Prop := (∀ j, 0 ≤ j → j < i → 0 ≤ t j ∧ t j ≤ 11) ∧ (0 ≤ i → -1 ≤ t i ∧ t i ≤ 11)
def up1 (t : Int → Int) (i v : Int) : Int → Int := fun j => if j = i then v else t j
theorem ms_all {t : Int → Int} {i b : Int} (h0 : 0 ≤ i) (h4 : i ≤ 4) (ht : tok t i) (hb : t i < b) (hb2 : b ≤ 12) : 0 < ms t i ∧ ms (up1 t i b) (i - 1) < ms t i ∧ ms (up1 t i b) i < ms t i ∧ (i ≤ 3 → ms (up1 (up1 t i b) (i + 1) (-1)) (i + 1) < ms t i) ∧ 0 ≤ ms (up1 t i b) (i - 1) := by
  obtain ⟨q1, q2⟩ := ht
  have q2 := q2 h0
  have r0 := q1 0 (by omega)
  have r1 := q1 1 (by omega)
  have r2 := q1 2 (by omega)
  have r3 := q1 3 (by omega)
  rcases (by omega : i = 0 ∨ i = 1 ∨ i = 2 ∨ i = 3 ∨ i = 4) with rfl | rfl | rfl | rfl | rfl <;> simp [ms, up1] at * <;> omega
theorem row618 {H H' : PH} (h : frm [83, 88, 89] H H') : H' 618 = H 618 := funext fun j => by
  have e := h 618 j (by decide) (by
    rw [show tau 618 = 103 from rfl]
    rfl)
  have e1 : ∀ X : PH, gv X ((618 : Nat) : Int) j = X 618 j := fun X => gv_none (zrt_row (c := 618) (by decide) (by decide +kernel))
  rw [e1, e1] at e
  exact e
theorem fld47 {H H' : PH} (h : frm [83, 88, 89] H H') : H' 590 47 = H 590 47 := h 590 47 (by decide) rfl

set_option maxRecDepth 20000 in
set_option maxHeartbeats 4000000 in
theorem lp_X12_laySettled_325 {G : zG} {us : Nat} {g : Nat → Nat → Int} (hg : GOK g) (H0 : PH) (M : Int) (ihx : ∀ (ls : PL) (off i : Int) (H : PH), ms (H 618) i < M → pnl ls → pget ls 0 = some (2, 590) → pget ls 1 = some (0, off) → pget ls 2 = some (0, i) → WT 0 g H → frm [12, 83, 84, 85, 86, 87, 88, 89, 90, 102, 103, 104, 105] H0 H → 1 ≤ H 590 47 → H 590 47 ≤ 5 → -1 ≤ i → i < H 590 47 → tok (H 618) i → -2147483648 ≤ off → off ≤ 2147483647 → Tr G us kd_X12_laySettled 8 (zget kd_X12_laySettled 185) 185 ls [] H (fun r H' => WT 0 g H' ∧ frm [12, 83, 84, 85, 86, 87, 88, 89, 90, 102, 103, 104, 105] H0 H' ∧ r = some (0, 1) ∧ 1 ≤ H' 590 47 ∧ H' 590 47 ≤ 5)) (off i : Int) (i0 : -1 ≤ i) (o0 : -2147483648 ≤ off) (o1 : off ≤ 2147483647) (T : Int → Int) (hT : ms T i < M) (hK : tok T i)   : ∀ (n : Nat) (ls : PL) (H : PH) (j : Int), (6 - j).toNat < n → pnl ls → pget ls 0 = some (2, 590) → pget ls 1 = some (0, off) → pget ls 2 = some (0, i) → pget ls 4 = some (0, j) → WT 0 g H → frm [12, 83, 84, 85, 86, 87, 88, 89, 90, 102, 103, 104, 105] H0 H → 1 ≤ H 590 47 → H 590 47 ≤ 5 → i < H 590 47 → H 618 = T → 0 ≤ j → Tr G us kd_X12_laySettled 8 (zget kd_X12_laySettled 325) 325 ls [] H (fun r H' => WT 0 g H' ∧ frm [12, 83, 84, 85, 86, 87, 88, 89, 90, 102, 103, 104, 105] H0 H' ∧ r = some (0, 1) ∧ 1 ≤ H' 590 47 ∧ H' 590 47 ≤ 5) := by
  intro n
  induction n with
  | zero => intros; omega
  | succ n ih =>
    intro ls H j hn hnl l0 l1 l2 l4 hW hF d1 d5 hid e618 j0
    have hw6 : ∀ x : Int, 0 ≤ x → x < 5 → -2147483648 ≤ H 618 x ∧ H 618 x ≤ 2147483647 := fun x h1 h2 => ra_618 hW h1 h2
    refine tr_lab (D := 7) (t := 325) vb_X12_laySettled_325 _ ve_X12_laySettled_325 ?_
    simp (maxDischargeDepth := 12) [vb_X12_laySettled_325, wB, wI, k1, kI, kR, kL, k2, pget, pget_pset, pnl_pset, pnl_cons, pnl_nil, parg, ppush, pcat, zw_lit, zw_m1, zw_m2, zw_m3, zNC_eq, zrow, pup_app, gv_590_0, gv_590_20, gv_590_44, gv_590_45, gv_590_46, gv_590_47, gv_590_48, gv_590_49, pe, tg_12_0, tg_12_20, tg_12_44, tg_12_45, tg_12_46, tg_12_47, tg_12_48, tg_12_49, zfit, zisI, sh_590, sh_590, sh_618, sh_619, hnl, l0, l1, l2, l4]
    repeat' (with_reducible (first | (refine And.intro ?_ ?_) | intro _))
    all_goals try (refine tr_lab (D := 7) (t := 354) vb_X12_laySettled_354 _ ve_X12_laySettled_354 ?_; simp (maxDischargeDepth := 12) [vb_X12_laySettled_354, wB, wI, k1, kI, kR, kL, k2, pget, pget_pset, pnl_pset, pnl_cons, pnl_nil, parg, ppush, pcat, zw_lit, zw_m1, zw_m2, zw_m3, zNC_eq, zrow, pup_app, gv_590_0, gv_590_20, gv_590_44, gv_590_45, gv_590_46, gv_590_47, gv_590_48, gv_590_49, pe, tg_12_0, tg_12_20, tg_12_44, tg_12_45, tg_12_46, tg_12_47, tg_12_48, tg_12_49, zfit, zisI, sh_590, sh_590, sh_618, sh_619, hnl, l0, l1, l2, l4])
    all_goals repeat' (with_reducible (first | (refine And.intro ?_ ?_) | intro _))
    all_goals try ((refine ihx _ off i _ ?_ ?_ ?_ ?_ ?_ ?_ ?_ ?_ ?_ ?_ ?_ ?_ ?_ ?_) <;> (try simp (maxDischargeDepth := 12) [pget_pset, pnl_pset, pnl_cons, pnl_nil, pget, pup_app, hnl, l0, l1, l2]))
    all_goals try (refine ih _ _ (j + 1) ?_ ?_ ?_ ?_ ?_ ?_ ?_ ?_ ?_ ?_ ?_ ?_ ?_)
    all_goals try simp (maxDischargeDepth := 12) [pget_pset, pnl_pset, pnl_cons, pnl_nil, pget, hnl, pup_app, l0, l1, l2, l4]
    all_goals (first | omega | assumption | ((repeat (first | assumption | exact frm_refl _ _ | (refine wa_619 ?_ (by omega) (by have := hw6 j (by omega) (by omega); omega) (by have := hw6 j (by omega) (by omega); omega)) | (refine fa_619 ?_ rfl))); done) | (rw [e618]; assumption) | (show H 618 = T; assumption) | (exact zw_lit (by omega) (by omega)) | skip)

set_option maxRecDepth 20000 in
set_option maxHeartbeats 4000000 in
theorem sg_X12_laySettled_301 {G : zG} {us : Nat} {g : Nat → Nat → Int} (hg : GOK g) (H0 : PH) (M : Int) (ihx : ∀ (ls : PL) (off i : Int) (H : PH), ms (H 618) i < M → pnl ls → pget ls 0 = some (2, 590) → pget ls 1 = some (0, off) → pget ls 2 = some (0, i) → WT 0 g H → frm [12, 83, 84, 85, 86, 87, 88, 89, 90, 102, 103, 104, 105] H0 H → 1 ≤ H 590 47 → H 590 47 ≤ 5 → -1 ≤ i → i < H 590 47 → tok (H 618) i → -2147483648 ≤ off → off ≤ 2147483647 → Tr G us kd_X12_laySettled 8 (zget kd_X12_laySettled 185) 185 ls [] H (fun r H' => WT 0 g H' ∧ frm [12, 83, 84, 85, 86, 87, 88, 89, 90, 102, 103, 104, 105] H0 H' ∧ r = some (0, 1) ∧ 1 ≤ H' 590 47 ∧ H' 590 47 ≤ 5)) (off i : Int) (i0 : 0 ≤ i) (o0 : -2147483648 ≤ off) (o1 : off ≤ 2147483647)  : ∀ (ls : PL) (H : PH), pnl ls → pget ls 0 = some (2, 590) → pget ls 1 = some (0, off) → pget ls 2 = some (0, i) → WT 0 g H → frm [12, 83, 84, 85, 86, 87, 88, 89, 90, 102, 103, 104, 105] H0 H → 1 ≤ H 590 47 → H 590 47 ≤ 5 → i < H 590 47 → ms (H 618) i < M → tok (H 618) i → Tr G us kd_X12_laySettled 8 (zget kd_X12_laySettled 301) 301 ls [] H (fun r H' => WT 0 g H' ∧ frm [12, 83, 84, 85, 86, 87, 88, 89, 90, 102, 103, 104, 105] H0 H' ∧ r = some (0, 1) ∧ 1 ≤ H' 590 47 ∧ H' 590 47 ≤ 5) := by
  intro ls H hnl l0 l1 l2 hW hF d1 d5 hid hT hK
  refine tr_lab (D := 7) (t := 301) vb_X12_laySettled_301 _ ve_X12_laySettled_301 ?_
  simp (maxDischargeDepth := 12) [vb_X12_laySettled_301, wB, wI, k1, kI, kR, kL, k2, pget, pget_pset, pnl_pset, pnl_cons, pnl_nil, parg, ppush, pcat, zw_lit, zw_m1, zw_m2, zw_m3, zNC_eq, zrow, pup_app, gv_590_0, gv_590_20, gv_590_44, gv_590_45, gv_590_46, gv_590_47, gv_590_48, gv_590_49, pe, tg_12_0, tg_12_20, tg_12_44, tg_12_45, tg_12_46, tg_12_47, tg_12_48, tg_12_49, zfit, zisI, sh_590, sh_590, sh_618, sh_619, hnl, l0, l1, l2]
  repeat' (with_reducible (first | (refine And.intro ?_ ?_) | intro _))
  all_goals try (refine tr_lab (D := 7) (t := 317) vb_X12_laySettled_317 _ ve_X12_laySettled_317 ?_; simp (maxDischargeDepth := 12) [vb_X12_laySettled_317, wB, wI, k1, kI, kR, kL, k2, pget, pget_pset, pnl_pset, pnl_cons, pnl_nil, parg, ppush, pcat, zw_lit, zw_m1, zw_m2, zw_m3, zNC_eq, zrow, pup_app, gv_590_0, gv_590_20, gv_590_44, gv_590_45, gv_590_46, gv_590_47, gv_590_48, gv_590_49, pe, tg_12_0, tg_12_20, tg_12_44, tg_12_45, tg_12_46, tg_12_47, tg_12_48, tg_12_49, zfit, zisI, sh_590, sh_590, sh_618, sh_619, hnl, l0, l1, l2])
  all_goals repeat' (with_reducible (first | (refine And.intro ?_ ?_) | intro _))
  all_goals try ((refine lp_X12_laySettled_325 hg H0 M ihx off i (by omega) o0 o1 (H 618) hT hK 7 _ _ 0 ?_ ?_ ?_ ?_ ?_ ?_ ?_ ?_ ?_ ?_ ?_ ?_ ?_) <;> (try simp (maxDischargeDepth := 12) [pget_pset, pnl_pset, pnl_cons, pnl_nil, pget, pup_app, hnl, l0, l1, l2]))
  all_goals try (refine tr_lab (D := 7) (t := 354) vb_X12_laySettled_354 _ ve_X12_laySettled_354 ?_; simp (maxDischargeDepth := 12) [vb_X12_laySettled_354, wB, wI, k1, kI, kR, kL, k2, pget, pget_pset, pnl_pset, pnl_cons, pnl_nil, parg, ppush, pcat, zw_lit, zw_m1, zw_m2, zw_m3, zNC_eq, zrow, pup_app, gv_590_0, gv_590_20, gv_590_44, gv_590_45, gv_590_46, gv_590_47, gv_590_48, gv_590_49, pe, tg_12_0, tg_12_20, tg_12_44, tg_12_45, tg_12_46, tg_12_47, tg_12_48, tg_12_49, zfit, zisI, sh_590, sh_590, sh_618, sh_619, hnl, l0, l1, l2])
  all_goals repeat' (with_reducible (first | (refine And.intro ?_ ?_) | intro _))
  all_goals try ((refine ihx _ off i _ ?_ ?_ ?_ ?_ ?_ ?_ ?_ ?_ ?_ ?_ ?_ ?_ ?_ ?_) <;> (try simp (maxDischargeDepth := 12) [pget_pset, pnl_pset, pnl_cons, pnl_nil, pget, pup_app, hnl, l0, l1, l2]))
  all_goals (first | omega | assumption | ((repeat (first | assumption | (refine wf_590_48 ?_ (by omega) (by omega)) | (refine ff_590_48 ?_ rfl))); done) | rfl | skip)

set_option maxRecDepth 20000 in
set_option maxHeartbeats 4000000 in
theorem sg_X12_laySettled_268 {G : zG} {us : Nat} {g : Nat → Nat → Int} (hg : GOK g) (H0 : PH) (M : Int) (ihx : ∀ (ls : PL) (off i : Int) (H : PH), ms (H 618) i < M → pnl ls → pget ls 0 = some (2, 590) → pget ls 1 = some (0, off) → pget ls 2 = some (0, i) → WT 0 g H → frm [12, 83, 84, 85, 86, 87, 88, 89, 90, 102, 103, 104, 105] H0 H → 1 ≤ H 590 47 → H 590 47 ≤ 5 → -1 ≤ i → i < H 590 47 → tok (H 618) i → -2147483648 ≤ off → off ≤ 2147483647 → Tr G us kd_X12_laySettled 8 (zget kd_X12_laySettled 185) 185 ls [] H (fun r H' => WT 0 g H' ∧ frm [12, 83, 84, 85, 86, 87, 88, 89, 90, 102, 103, 104, 105] H0 H' ∧ r = some (0, 1) ∧ 1 ≤ H' 590 47 ∧ H' 590 47 ≤ 5)) (off i : Int) (i0 : 0 ≤ i) (o0 : -2147483648 ≤ off) (o1 : off ≤ 2147483647) (b : Int) (i4 : i ≤ 4) (b0 : 0 ≤ b) (b1 : b ≤ 11)  : ∀ (ls : PL) (H : PH), pnl ls → pget ls 0 = some (2, 590) → pget ls 1 = some (0, off) → pget ls 2 = some (0, i) → pget ls 3 = some (0, b) → WT 0 g H → frm [12, 83, 84, 85, 86, 87, 88, 89, 90, 102, 103, 104, 105] H0 H → 1 ≤ H 590 47 → H 590 47 ≤ 5 → i < H 590 47 → ms (H 618) i < M → (i ≤ 3 → ms (up1 (H 618) (i + 1) (-1)) (i + 1) < M) → tok (H 618) i → 0 ≤ H 618 i → Tr G us kd_X12_laySettled 8 (zget kd_X12_laySettled 268) 268 ls [] H (fun r H' => WT 0 g H' ∧ frm [12, 83, 84, 85, 86, 87, 88, 89, 90, 102, 103, 104, 105] H0 H' ∧ r = some (0, 1) ∧ 1 ≤ H' 590 47 ∧ H' 590 47 ≤ 5) := by
  intro ls H hnl l0 l1 l2 l3 hW hF d1 d5 hid hT hTd hK hKi
  refine tr_lab (D := 7) (t := 268) vb_X12_laySettled_268 _ ve_X12_laySettled_268 ?_
  simp (maxDischargeDepth := 12) [vb_X12_laySettled_268, wB, wI, k1, kI, kR, kL, k2, pget, pget_pset, pnl_pset, pnl_cons, pnl_nil, parg, ppush, pcat, zw_lit, zw_m1, zw_m2, zw_m3, zNC_eq, zrow, pup_app, gv_590_0, gv_590_20, gv_590_44, gv_590_45, gv_590_46, gv_590_47, gv_590_48, gv_590_49, pe, tg_12_0, tg_12_20, tg_12_44, tg_12_45, tg_12_46, tg_12_47, tg_12_48, tg_12_49, zfit, zisI, sh_590, sh_590, sh_618, hnl, l0, l1, l2, l3]
  repeat' (with_reducible (first | (refine And.intro ?_ ?_) | intro _))
  all_goals try (refine Ca_use (ca_X12_takes_ hg _ _ _ _ (by assumption) (by omega) (by omega) (by omega) (by omega) (by omega) (by omega)) (by omega) ?_; rintro _ _ ⟨hW2, hF2, x, rfl, x0, x1⟩; simp (maxDischargeDepth := 12) [wB, wI, k1, kI, kR, kL, k2, pget, pget_pset, pnl_pset, pnl_cons, pnl_nil, parg, ppush, pcat, zw_lit, zw_m1, zw_m2, zw_m3, zNC_eq, zrow, pup_app, gv_590_0, gv_590_20, gv_590_44, gv_590_45, gv_590_46, gv_590_47, gv_590_48, gv_590_49, pe, tg_12_0, tg_12_20, tg_12_44, tg_12_45, tg_12_46, tg_12_47, tg_12_48, tg_12_49, zfit, zisI, sh_590, sh_590, sh_618, hnl, l0, l1, l2, l3])
  all_goals repeat' (with_reducible (first | (refine And.intro ?_ ?_) | intro _))
  all_goals try ((refine sg_X12_laySettled_301 hg H0 M ihx (zw (off + x)) i i0 (zw_lo _) (zw_hi _) _ _ ?_ ?_ ?_ ?_ ?_ ?_ ?_ ?_ ?_ ?_ ?_) <;> (try simp (maxDischargeDepth := 12) [pget_pset, pnl_pset, pnl_cons, pnl_nil, pget, pup_app, hnl, l0, l1, l2]))
  all_goals try (refine tr_lab (D := 7) (t := 354) vb_X12_laySettled_354 _ ve_X12_laySettled_354 ?_; simp (maxDischargeDepth := 12) [vb_X12_laySettled_354, wB, wI, k1, kI, kR, kL, k2, pget, pget_pset, pnl_pset, pnl_cons, pnl_nil, parg, ppush, pcat, zw_lit, zw_m1, zw_m2, zw_m3, zNC_eq, zrow, pup_app, gv_590_0, gv_590_20, gv_590_44, gv_590_45, gv_590_46, gv_590_47, gv_590_48, gv_590_49, pe, tg_12_0, tg_12_20, tg_12_44, tg_12_45, tg_12_46, tg_12_47, tg_12_48, tg_12_49, zfit, zisI, sh_590, sh_590, sh_618, hnl, l0, l1, l2, l3])
  all_goals repeat' (with_reducible (first | (refine And.intro ?_ ?_) | intro _))
  all_goals try ((refine ihx _ _ (i + 1) _ ?_ ?_ ?_ ?_ ?_ ?_ ?_ ?_ ?_ ?_ ?_ ?_ ?_ ?_) <;> (try simp (maxDischargeDepth := 12) [pget_pset, pnl_pset, pnl_cons, pnl_nil, pget, pup_app, hnl, l0, l1, l2]))
  all_goals skip

theorem up618 {H : PH} {i b : Int} : (pup H 618 i b) 618 = up1 (H 618) i b := funext fun j => by
  unfold pup up1
  by_cases e : j = i
  · rw [if_pos ⟨rfl, e⟩, if_pos e]
  · rw [if_neg (fun q => e q.2), if_neg e]
theorem tok_dn {t : Int → Int} {i b : Int} (h : tok t i) : tok (up1 t i b) (i - 1) := by
  obtain ⟨q1, q2⟩ := h
  refine ⟨fun j h0 h1 => ?_, fun h0 => ?_⟩
  · unfold up1
    rw [if_neg (by omega)]
    exact q1 j h0 (by omega)
  · unfold up1
    rw [if_neg (by omega)]
    have := q1 (i - 1) h0 (by omega)
    omega
theorem tok_at {t : Int → Int} {i b : Int} (h : tok t i) (b0 : -1 ≤ b) (b1 : b ≤ 11) : tok (up1 t i b) i := by
  obtain ⟨q1, q2⟩ := h
  refine ⟨fun j h0 h1 => ?_, fun h0 => ?_⟩
  · unfold up1
    rw [if_neg (by omega)]
    exact q1 j h0 h1
  · unfold up1
    rw [if_pos rfl]
    exact ⟨b0, b1⟩
theorem tok_up {t : Int → Int} {i : Int} (h : tok t i) (h0 : 0 ≤ i) (hi : 0 ≤ t i) : tok (up1 t (i + 1) (-1)) (i + 1) := by
  obtain ⟨q1, q2⟩ := h
  have q2 := q2 h0
  refine ⟨fun j a c => ?_, fun _ => ?_⟩
  · unfold up1
    rw [if_neg (by omega)]
    by_cases e : j = i
    · rw [e]
      omega
    · exact q1 j a (by omega)
  · unfold up1
    rw [if_pos rfl]
    omega
set_option maxRecDepth 20000 in
set_option maxHeartbeats 4000000 in
theorem sg_X12_laySettled_249 {G : zG} {us : Nat} {g : Nat → Nat → Int} (hg : GOK g) (H0 : PH) (M : Int) (ihx : ∀ (ls : PL) (off i : Int) (H : PH), ms (H 618) i < M → pnl ls → pget ls 0 = some (2, 590) → pget ls 1 = some (0, off) → pget ls 2 = some (0, i) → WT 0 g H → frm [12, 83, 84, 85, 86, 87, 88, 89, 90, 102, 103, 104, 105] H0 H → 1 ≤ H 590 47 → H 590 47 ≤ 5 → -1 ≤ i → i < H 590 47 → tok (H 618) i → -2147483648 ≤ off → off ≤ 2147483647 → Tr G us kd_X12_laySettled 8 (zget kd_X12_laySettled 185) 185 ls [] H (fun r H' => WT 0 g H' ∧ frm [12, 83, 84, 85, 86, 87, 88, 89, 90, 102, 103, 104, 105] H0 H' ∧ r = some (0, 1) ∧ 1 ≤ H' 590 47 ∧ H' 590 47 ≤ 5)) (off i : Int) (i0 : 0 ≤ i) (o0 : -2147483648 ≤ off) (o1 : off ≤ 2147483647) (b : Int) (i4 : i ≤ 4)  : ∀ (ls : PL) (H : PH), pnl ls → pget ls 0 = some (2, 590) → pget ls 1 = some (0, off) → pget ls 2 = some (0, i) → pget ls 3 = some (0, b) → WT 0 g H → frm [12, 83, 84, 85, 86, 87, 88, 89, 90, 102, 103, 104, 105] H0 H → 1 ≤ H 590 47 → H 590 47 ≤ 5 → i < H 590 47 → M = ms (H 618) i → tok (H 618) i → H 618 i < b → b ≤ 12 → Tr G us kd_X12_laySettled 8 (zget kd_X12_laySettled 249) 249 ls [] H (fun r H' => WT 0 g H' ∧ frm [12, 83, 84, 85, 86, 87, 88, 89, 90, 102, 103, 104, 105] H0 H' ∧ r = some (0, 1) ∧ 1 ≤ H' 590 47 ∧ H' 590 47 ≤ 5) := by
  intro ls H hnl l0 l1 l2 l3 hW hF d1 d5 hid hM hK hb hb2
  refine tr_lab (D := 7) (t := 249) vb_X12_laySettled_249 _ ve_X12_laySettled_249 ?_
  simp (maxDischargeDepth := 12) [vb_X12_laySettled_249, wB, wI, k1, kI, kR, kL, k2, pget, pget_pset, pnl_pset, pnl_cons, pnl_nil, parg, ppush, pcat, zw_lit, zw_m1, zw_m2, zw_m3, zNC_eq, zrow, pup_app, gv_590_0, gv_590_20, gv_590_44, gv_590_45, gv_590_46, gv_590_47, gv_590_48, gv_590_49, pe, tg_12_0, tg_12_20, tg_12_44, tg_12_45, tg_12_46, tg_12_47, tg_12_48, tg_12_49, zfit, zisI, sh_590, sh_590, sh_618, hnl, l0, l1, l2, l3]
  repeat' (with_reducible (first | (refine And.intro ?_ ?_) | intro _))
  all_goals try ((refine sg_X12_laySettled_268 hg H0 M ihx off i i0 o0 o1 b i4 (by omega) (by omega) _ _ ?_ ?_ ?_ ?_ ?_ ?_ ?_ ?_ ?_ ?_ ?_ ?_ ?_ ?_) <;> (try simp (maxDischargeDepth := 12) [pget_pset, pnl_pset, pnl_cons, pnl_nil, pget, pup_app, hnl, l0, l1, l2, l3]))
  all_goals try ((refine ihx _ off (i - 1) _ ?_ ?_ ?_ ?_ ?_ ?_ ?_ ?_ ?_ ?_ ?_ ?_ ?_ ?_) <;> (try simp (maxDischargeDepth := 12) [pget_pset, pnl_pset, pnl_cons, pnl_nil, pget, pup_app, hnl, l0, l1, l2]))
  all_goals skip

set_option maxRecDepth 20000 in
set_option maxHeartbeats 4000000 in
theorem lp_X12_laySettled_223 {G : zG} {us : Nat} {g : Nat → Nat → Int} (hg : GOK g) (H0 : PH) (M : Int) (ihx : ∀ (ls : PL) (off i : Int) (H : PH), ms (H 618) i < M → pnl ls → pget ls 0 = some (2, 590) → pget ls 1 = some (0, off) → pget ls 2 = some (0, i) → WT 0 g H → frm [12, 83, 84, 85, 86, 87, 88, 89, 90, 102, 103, 104, 105] H0 H → 1 ≤ H 590 47 → H 590 47 ≤ 5 → -1 ≤ i → i < H 590 47 → tok (H 618) i → -2147483648 ≤ off → off ≤ 2147483647 → Tr G us kd_X12_laySettled 8 (zget kd_X12_laySettled 185) 185 ls [] H (fun r H' => WT 0 g H' ∧ frm [12, 83, 84, 85, 86, 87, 88, 89, 90, 102, 103, 104, 105] H0 H' ∧ r = some (0, 1) ∧ 1 ≤ H' 590 47 ∧ H' 590 47 ≤ 5)) (off i : Int) (i0 : 0 ≤ i) (o0 : -2147483648 ≤ off) (o1 : off ≤ 2147483647) (i4 : i ≤ 4) (H : PH)  : ∀ (n : Nat) (ls : PL) (b : Int), (12 - b).toNat < n → pnl ls → pget ls 0 = some (2, 590) → pget ls 1 = some (0, off) → pget ls 2 = some (0, i) → pget ls 3 = some (0, b) → WT 0 g H → frm [12, 83, 84, 85, 86, 87, 88, 89, 90, 102, 103, 104, 105] H0 H → 1 ≤ H 590 47 → H 590 47 ≤ 5 → i < H 590 47 → M = ms (H 618) i → tok (H 618) i → H 618 i < b → b ≤ 12 → Tr G us kd_X12_laySettled 8 (zget kd_X12_laySettled 223) 223 ls [] H (fun r H' => WT 0 g H' ∧ frm [12, 83, 84, 85, 86, 87, 88, 89, 90, 102, 103, 104, 105] H0 H' ∧ r = some (0, 1) ∧ 1 ≤ H' 590 47 ∧ H' 590 47 ≤ 5) := by
  intro n
  induction n with
  | zero => intros; omega
  | succ n ih =>
    intro ls b hn hnl l0 l1 l2 l3 hW hF d1 d5 hid hM hK hb hb2
    refine tr_lab (D := 7) (t := 223) vb_X12_laySettled_223 _ ve_X12_laySettled_223 ?_
    simp (maxDischargeDepth := 12) [vb_X12_laySettled_223, wB, wI, k1, kI, kR, kL, k2, pget, pget_pset, pnl_pset, pnl_cons, pnl_nil, parg, ppush, pcat, zw_lit, zw_m1, zw_m2, zw_m3, zNC_eq, zrow, pup_app, gv_590_0, gv_590_20, gv_590_44, gv_590_45, gv_590_46, gv_590_47, gv_590_48, gv_590_49, pe, tg_12_0, tg_12_20, tg_12_44, tg_12_45, tg_12_46, tg_12_47, tg_12_48, tg_12_49, zfit, zisI, sh_590, sh_590, sh_620, hnl, l0, l1, l2, l3]
    repeat' (with_reducible (first | (refine And.intro ?_ ?_) | intro _))
    all_goals try ((refine sg_X12_laySettled_249 hg H0 M ihx off i i0 o0 o1 b i4 _ _ ?_ ?_ ?_ ?_ ?_ ?_ ?_ ?_ ?_ ?_ ?_ ?_ ?_ ?_) <;> (try simp (maxDischargeDepth := 12) [pget_pset, pnl_pset, pnl_cons, pnl_nil, pget, pup_app, hnl, l0, l1, l2, l3]))
    all_goals try (refine ih _ (b + 1) ?_ ?_ ?_ ?_ ?_ ?_ ?_ ?_ ?_ ?_ ?_ ?_ ?_ ?_ ?_)
    all_goals try simp (maxDischargeDepth := 12) [pget_pset, pnl_pset, pnl_cons, pnl_nil, pget, hnl, pup_app, l0, l1, l2, l3]
    all_goals skip

