theorem vm_X1_takeOut : zget zM 13 = some ((13, 1, false, cX1_takeOut, 5, (some (.object "BaleTallies$Line"))), kd_X1_takeOut) := rfl
theorem vm_X1_putBack : zget zM 14 = some ((14, 1, false, cX1_putBack, 5, (some (.object "BaleTallies$Line"))), kd_X1_putBack) := rfl
theorem vm_X1_gapsOf : zget zM 15 = some ((15, 1, false, cX1_gapsOf, 4, (some (.array .int))), kd_X1_gapsOf) := rfl
theorem vm_X11_noteDeed : zget zM 154 = some ((154, 11, false, cX11_noteDeed, 6, (some (.object "BaleTallies$Deed"))), kd_X11_noteDeed) := rfl
set_option maxRecDepth 20000 in
set_option maxHeartbeats 4000000 in
theorem ca_X11_within {G : zG} {us : Nat} (v lo hi : Int) (H : PH)  : Ca G us 1 145 [(0, v), (0, lo), (0, hi)] H (fun r H' => H = H' ∧ r = some (0, if lo ≤ v ∧ v ≤ hi then 1 else 0)) := by
  refine ⟨_, _, _, _, _, _, vm_X11_within, by simp [pcat], ?_⟩
  refine tr_lab (D := 0) (t := 0) vb_X11_within_0 _ ve_X11_within_0 ?_
  simp (maxDischargeDepth := 12) [vb_X11_within_0, wB, wI, k1, kI, kR, kL, k2, pget, pget_pset, pnl_pset, pnl_cons, pnl_nil, parg, ppush, pcat, zw_lit, zw_m1, zw_m2, zw_m3, zNC_eq, zrow, pup_app, sh_590]
  repeat' (with_reducible (first | (refine And.intro ?_ ?_) | intro _))
  all_goals try (refine tr_lab (D := 0) (t := 14) vb_X11_within_14 _ ve_X11_within_14 ?_; simp (maxDischargeDepth := 12) [vb_X11_within_14, wB, wI, k1, kI, kR, kL, k2, pget, pget_pset, pnl_pset, pnl_cons, pnl_nil, parg, ppush, pcat, zw_lit, zw_m1, zw_m2, zw_m3, zNC_eq, zrow, pup_app, sh_590])
  all_goals repeat' (with_reducible (first | (refine And.intro ?_ ?_) | intro _))
  all_goals try (refine tr_lab (D := 0) (t := 15) vb_X11_within_15 _ ve_X11_within_15 ?_; simp (maxDischargeDepth := 12) [vb_X11_within_15, wB, wI, k1, kI, kR, kL, k2, pget, pget_pset, pnl_pset, pnl_cons, pnl_nil, parg, ppush, pcat, zw_lit, zw_m1, zw_m2, zw_m3, zNC_eq, zrow, pup_app, sh_590])
  all_goals repeat' (with_reducible (first | (refine And.intro ?_ ?_) | intro _))
  all_goals omega

def cc_X11_within (l l' : Int) (s : Nat) (h h' : Int) (s' : Nat) : aC := (145, 1, [vtop, (0, l, l', s), (0, h, h', s')], some (0, 0, 1, 1), [(1, 1, 0, l, h')], 0, [], [], [], [])
theorem ct_X11_within (l l' : Int) (s : Nat) (h h' : Int) (s' : Nat) : CtOK (cc_X11_within l l' s h h' s') := by
  intro G us g H as hg hW ha hp
  obtain ⟨p, q, r, rfl, h1, h2, h3⟩ := aargs3 ha
  obtain ⟨v, rfl, _⟩ := arg_int (show aval (0, -2147483648, 2147483647, 1) p from h1)
  obtain ⟨a, rfl, a1, a2, _⟩ := arg_int h2
  obtain ⟨b, rfl, b1, b2, _⟩ := arg_int h3
  refine Ca_use (ca_X11_within v a b H) (Nat.le_refl _) ?_
  rintro r H' ⟨rfl, rfl⟩
  refine fin_pure hW b01i (fact1 (v := v) rfl (fun q _ => ?_))
  have := if_ne (fun e => by rw [e] at q; omega); omega
def cc_X12_isIn (l l' : Int) (s : Nat) (h h' : Int) (s' : Nat) : aC := (156, 1, [vtop, (0, l, l', s), (0, h, h', s')], some (0, 0, 1, 1), [(1, 1, 0, l, h')], 0, [], [], [], [])
theorem ct_X12_isIn (l l' : Int) (s : Nat) (h h' : Int) (s' : Nat) : CtOK (cc_X12_isIn l l' s h h' s') := by
  intro G us g H as hg hW ha hp
  obtain ⟨p, q, r, rfl, h1, h2, h3⟩ := aargs3 ha
  obtain ⟨v, rfl, _⟩ := arg_int (show aval (0, -2147483648, 2147483647, 1) p from h1)
  obtain ⟨a, rfl, a1, a2, _⟩ := arg_int h2
  obtain ⟨b, rfl, b1, b2, _⟩ := arg_int h3
  refine Ca_use (ca_X12_isIn v a b H) (Nat.le_refl _) ?_
  rintro r H' ⟨rfl, rfl⟩
  refine fin_pure hW b01i (fact1 (v := v) rfl (fun q _ => ?_))
  have := if_ne (fun e => by rw [e] at q; omega); omega
def cc_X12_lesser (l l' : Int) (s : Nat) (h h' : Int) (s' : Nat) : aC := (191, 1, [(0, l, l', s), (0, h, h', s')], some (vmin (0, l, l', s) (0, h, h', s')), [], 0, [], [], [], [])
theorem ct_X12_lesser (l l' : Int) (s : Nat) (h h' : Int) (s' : Nat) : CtOK (cc_X12_lesser l l' s h h' s') := by
  intro G us g H as hg hW ha hp
  obtain ⟨p, q, rfl, h1, h2⟩ := aargs2 ha
  obtain ⟨a, rfl, a1⟩ := arg_int h1
  obtain ⟨b, rfl, b1⟩ := arg_int h2
  refine Ca_use (ca_X12_lesser a b H) (Nat.le_refl _) ?_
  rintro r H' ⟨rfl, rfl⟩
  refine fin_plain hW ?_ (frm_refl _ _)
  have := vmin_ok (a := (0, l, l', s)) (b := (0, h, h', s')) (x := a) (y := b) a1 b1
  have e : (if a < b then a else b) = (if b < a then b else a) := by split <;> split <;> omega
  rw [e]
  exact this
def cc_X12_most (l l' : Int) (s : Nat) (h h' : Int) (s' : Nat) : aC := (192, 1, [(0, l, l', s), (0, h, h', s')], some (vmax (0, l, l', s) (0, h, h', s')), [], 0, [], [], [], [])
theorem ct_X12_most (l l' : Int) (s : Nat) (h h' : Int) (s' : Nat) : CtOK (cc_X12_most l l' s h h' s') := by
  intro G us g H as hg hW ha hp
  obtain ⟨p, q, rfl, h1, h2⟩ := aargs2 ha
  obtain ⟨a, rfl, a1⟩ := arg_int h1
  obtain ⟨b, rfl, b1⟩ := arg_int h2
  refine Ca_use (ca_X12_most a b H) (Nat.le_refl _) ?_
  rintro r H' ⟨rfl, rfl⟩
  refine fin_plain hW ?_ (frm_refl _ _)
  have := vmax_ok (a := (0, l, l', s)) (b := (0, h, h', s')) (x := a) (y := b) a1 b1
  have e : (if b < a then a else b) = (if a < b then b else a) := by split <;> split <;> omega
  rw [e]
  exact this
def nx (H : PH) : Int := if H 213 2 < H 213 1 then H 214 (H 213 2) else -1
set_option maxRecDepth 20000 in
set_option maxHeartbeats 4000000 in
theorem ca_X10_next {G : zG} {us : Nat}  (H : PH) (h0 : 0 ≤ H 213 2) (h1 : H 213 2 ≤ 600) (h2 : H 213 1 ≤ 600) : Ca G us 1 95 [(2, 213)] H (fun r H' => H = H' ∧ r = some (0, nx H)) := by
  refine ⟨_, _, _, _, _, _, vm_X10_next, by simp [pcat], ?_⟩
  refine tr_lab (D := 0) (t := 0) vb_X10_next_0 _ ve_X10_next_0 ?_
  simp (maxDischargeDepth := 12) [vb_X10_next_0, wB, wI, k1, kI, kR, kL, k2, pget, pget_pset, pnl_pset, pnl_cons, pnl_nil, parg, ppush, pcat, zw_lit, zw_m1, zw_m2, zw_m3, zNC_eq, zrow, pup_app, gv_213_0, gv_213_1, gv_213_2, tg_10_0, tg_10_1, tg_10_2, sh_590, sh_213, sh_214, nx]
  repeat' (with_reducible (first | (refine And.intro ?_ ?_) | intro _))
  all_goals try (refine tr_lab (D := 0) (t := 23) vb_X10_next_23 _ ve_X10_next_23 ?_; simp (maxDischargeDepth := 12) [vb_X10_next_23, wB, wI, k1, kI, kR, kL, k2, pget, pget_pset, pnl_pset, pnl_cons, pnl_nil, parg, ppush, pcat, zw_lit, zw_m1, zw_m2, zw_m3, zNC_eq, zrow, pup_app, gv_213_0, gv_213_1, gv_213_2, tg_10_0, tg_10_1, tg_10_2, sh_590, sh_213, sh_214, nx])
  all_goals repeat' (with_reducible (first | (refine And.intro ?_ ?_) | intro _))
  all_goals try (refine tr_lab (D := 0) (t := 24) vb_X10_next_24 _ ve_X10_next_24 ?_; simp (maxDischargeDepth := 12) [vb_X10_next_24, wB, wI, k1, kI, kR, kL, k2, pget, pget_pset, pnl_pset, pnl_cons, pnl_nil, parg, ppush, pcat, zw_lit, zw_m1, zw_m2, zw_m3, zNC_eq, zrow, pup_app, gv_213_0, gv_213_1, gv_213_2, tg_10_0, tg_10_1, tg_10_2, sh_590, sh_213, sh_214, nx])
  all_goals repeat' (with_reducible (first | (refine And.intro ?_ ?_) | intro _))
  all_goals (first | omega | (simp only [nx]; split <;> (first | rfl | omega)))

set_option maxRecDepth 20000 in
set_option maxHeartbeats 4000000 in
theorem ca_X10_fail {G : zG} {us : Nat} (x : Int) (H : PH)  : Ca G us 1 96 [(2, 213), (0, x)] H (fun r H' => H' = pup H 213 3 x ∧ r = some (0, 0)) := by
  refine ⟨_, _, _, _, _, _, vm_X10_fail, by simp [pcat], ?_⟩
  refine tr_lab (D := 0) (t := 0) vb_X10_fail_0 _ ve_X10_fail_0 ?_
  simp (maxDischargeDepth := 12) [vb_X10_fail_0, wB, wI, k1, kI, kR, kL, k2, pget, pget_pset, pnl_pset, pnl_cons, pnl_nil, parg, ppush, pcat, zw_lit, zw_m1, zw_m2, zw_m3, zNC_eq, zrow, pup_app, pe, tg_10_3, zfit, zisI, sh_590, sh_213]
  repeat' (with_reducible (first | (refine And.intro ?_ ?_) | intro _))
  all_goals omega

theorem nx_b (H : PH) : H 213 2 < H 213 1 ∨ nx H = -1 := by
  unfold nx
  by_cases e : H 213 2 < H 213 1
  · exact Or.inl e
  · rw [if_neg e]
    exact Or.inr rfl
