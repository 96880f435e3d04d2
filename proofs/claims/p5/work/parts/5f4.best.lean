/-! ===== goAlong, layBest ===== -/
theorem ca_lesser3 {G : zG} {us : Nat} (a b : Int) (H : PH) : Ca G us 1 191 [(0, a), (0, b)] H (fun r H' => H = H' ∧ ∃ z, r = some (0, z) ∧ z ≤ a ∧ z ≤ b ∧ (z = a ∨ z = b)) :=
  Ca_mono (Nat.le_refl _) (fun r H' q => ⟨q.1, _, q.2, by split <;> omega, by split <;> omega, by split <;> omega⟩) (ca_X12_lesser a b H)
theorem BF_nx {pi : Int → Int} {H : PH} (h : BF pi H) {v : Int} (v0 : 0 ≤ v) (v1 : v < 84) : -1 ≤ H 611 v ∧ H 611 v < 84 ∧ (H 611 v ≠ -1 → H 610 (H 611 v) < 1000000 ∧ (v < 72 → 72 ≤ H 611 v ∧ 0 < H 608 (12 * v + H 611 v - 72)) ∧ (72 ≤ v → H 611 v < 72)) ∧ (H 611 v = -1 → H 610 v < 1000000 → v < 72 ∧ 0 < H 606 v) := by
  obtain ⟨w1, w2, w3, w4, w5, w6⟩ := h.2
  by_cases e : H 611 v = -1
  · refine ⟨by omega, by omega, fun q => (q e).elim, fun _ q => ?_⟩
    rcases w3 v v0 v1 e with r | r
    · omega
    · exact r
  · by_cases c : v < 72
    · obtain ⟨a1, a2, a3, a4, a5, a6⟩ := w5 v v0 c e
      rw [show 12 * v + (H 611 v - 72) = 12 * v + H 611 v - 72 by omega] at a5
      exact ⟨by omega, by omega, fun _ => ⟨a3, fun _ => ⟨a1, a5⟩, fun _ => by omega⟩, fun q => (e q).elim⟩
    · obtain ⟨a1, a2, a3, a4, a5⟩ := w4 v (by omega) v1 e
      exact ⟨by omega, by omega, fun _ => ⟨a3, fun _ => by omega, fun _ => a2⟩, fun q => (e q).elim⟩
def GBk (H0 H : PH) : Prop := ∀ k, 0 ≤ k → k < 864 → 0 < H 608 k → 0 < H0 608 k ∨ H0 611 (72 + k % 12) = k / 12
theorem GBk_up {H0 H : PH} {k x : Int} (h : GBk H0 H) (hk : 0 < H0 608 k ∨ H0 611 (72 + k % 12) = k / 12) : GBk H0 (pup H 608 k x) := by
  intro q q0 q1 q2
  by_cases e : q = k
  · rw [e]
    exact hk
  · have : pup H 608 k x 608 q = H 608 q := if_neg (fun z => e z.2)
    rw [this] at q2
    exact h q q0 q1 q2
theorem it_step {P : Int → Int} {N : Nat} {v : Int} (h : it P N v = -1) (v0 : 0 ≤ v) : ∃ N', N = N' + 1 ∧ it P N' (P v) = -1 := by
  cases N with
  | zero =>
    have : v = -1 := h
    omega
  | succ N =>
    refine ⟨N, rfl, ?_⟩
    have q : nxt P v = P v := if_neg (by omega)
    rw [← q]
    exact h

set_option maxRecDepth 20000 in
set_option maxHeartbeats 4000000 in
theorem lp_X12_goAlong_126 {G : zG} {us : Nat} {g : Nat → Nat → Int} (pi : Int → Int) (H0 : PH) (hB : BF pi H0) (to : Int) (t0 : 72 ≤ to) (t1 : to < 84) (nn : Int) (hh : Int → Int)  (hw : Int → Int) (n1 : 1 ≤ nn) (n2 : nn ≤ H0 607 (to - 72)) (h6 : ∀ v, 0 ≤ v → v < 72 → 0 < hh v → 0 < H0 606 v) (h7 : hw = upf (H0 607) (to - 72) (H0 607 (to - 72) - nn))   : ∀ (n : Nat) (ls : PL) (H : PH) (N : Nat) (v : Int), ((N : Int)).toNat < n → pget ls 0 = some (2, 590) → pget ls 2 = some (0, nn) → pget ls 3 = some (0, v) → WT 0 g H → frm [12, 91, 92, 93] H0 H → H 611 = H0 611 → GBk H0 H → H 606 = hh → H 607 = hw → it (H0 611) N v = -1 → 0 ≤ v → v < 84 → Tr G us kd_X12_goAlong 2 (zget kd_X12_goAlong 126) 126 ls [] H (fun r H' => r = none ∧ WT 0 g H' ∧ frm [12, 91, 92, 93] H0 H' ∧ GBk H0 H' ∧ (∀ v, 0 ≤ v → v < 72 → 0 < H' 606 v → 0 < H0 606 v) ∧ ∃ n, 1 ≤ n ∧ n ≤ H0 607 (to - 72) ∧ H' 607 = upf (H0 607) (to - 72) (H0 607 (to - 72) - n)) := by
  intro n
  induction n with
  | zero => intros; omega
  | succ n ih =>
    intro ls H N v hn  l0 l2 l3 hW hF e611 hG e606 e607 hN v0 v1
    have hx := BF_nx hB v0 v1
    obtain ⟨N', rfl, hN'⟩ := it_step hN v0
    have z1 : zw (12 * v) = 12 * v := zw_lit (by omega) (by omega)
    have z2 : zw (12 * v + H0 611 v) = 12 * v + H0 611 v := zw_lit (by omega) (by omega)
    have z3 : zw (12 * v + H0 611 v - 72) = 12 * v + H0 611 v - 72 := zw_lit (by omega) (by omega)
    have z4 : zw (12 * H0 611 v) = 12 * H0 611 v := zw_lit (by omega) (by omega)
    have z5 : zw (12 * H0 611 v + v) = 12 * H0 611 v + v := zw_lit (by omega) (by omega)
    have z6 : zw (12 * H0 611 v + v - 72) = 12 * H0 611 v + v - 72 := zw_lit (by omega) (by omega)
    refine tr_lab (D := 1) (t := 126) vb_X12_goAlong_126 _ ve_X12_goAlong_126 ?_
    simp (maxDischargeDepth := 12) [vb_X12_goAlong_126, wB, wI, k1, kI, kR, kL, k2, pget, parg, ppush, pcat, zw_lit, zw_m1, zw_m2, zw_m3, zNC_eq, zrow, pup_app, pget_pss, pget_psx, nlg_some, nlg_none, gv_590_27, gv_590_28, gv_590_29, gv_590_31, gv_590_32, gv_590_33, gv_590_34, pe, tg_12_27, tg_12_28, tg_12_29, tg_12_31, tg_12_32, tg_12_33, tg_12_34, zfit, zisI, sh_590, sh_608, sh_611, e611, z1, z2, z3, z4, z5, z6, l0, l2, l3]
    repeat' (with_reducible (first | (refine And.intro ?_ ?_) | intro _))
    all_goals try (refine tr_lab (D := 1) (t := 173) vb_X12_goAlong_173 _ ve_X12_goAlong_173 ?_; simp (maxDischargeDepth := 12) [vb_X12_goAlong_173, wB, wI, k1, kI, kR, kL, k2, pget, parg, ppush, pcat, zw_lit, zw_m1, zw_m2, zw_m3, zNC_eq, zrow, pup_app, pget_pss, pget_psx, nlg_some, nlg_none, gv_590_27, gv_590_28, gv_590_29, gv_590_31, gv_590_32, gv_590_33, gv_590_34, pe, tg_12_27, tg_12_28, tg_12_29, tg_12_31, tg_12_32, tg_12_33, tg_12_34, zfit, zisI, sh_590, sh_608, sh_611, e611, z1, z2, z3, z4, z5, z6, l0, l2, l3])
    all_goals repeat' (with_reducible (first | (refine And.intro ?_ ?_) | intro _))
    all_goals try (refine tr_lab (D := 1) (t := 192) vb_X12_goAlong_192 _ ve_X12_goAlong_192 ?_; simp (maxDischargeDepth := 12) [vb_X12_goAlong_192, wB, wI, k1, kI, kR, kL, k2, pget, parg, ppush, pcat, zw_lit, zw_m1, zw_m2, zw_m3, zNC_eq, zrow, pup_app, pget_pss, pget_psx, nlg_some, nlg_none, gv_590_27, gv_590_28, gv_590_29, gv_590_31, gv_590_32, gv_590_33, gv_590_34, pe, tg_12_27, tg_12_28, tg_12_29, tg_12_31, tg_12_32, tg_12_33, tg_12_34, zfit, zisI, sh_590, sh_608, sh_611, e611, z1, z2, z3, z4, z5, z6, l0, l2, l3])
    all_goals repeat' (with_reducible (first | (refine And.intro ?_ ?_) | intro _))
    all_goals try (refine tr_lab (D := 1) (t := 198) vb_X12_goAlong_198 _ ve_X12_goAlong_198 ?_; simp (maxDischargeDepth := 12) [vb_X12_goAlong_198, wB, wI, k1, kI, kR, kL, k2, pget, parg, ppush, pcat, zw_lit, zw_m1, zw_m2, zw_m3, zNC_eq, zrow, pup_app, pget_pss, pget_psx, nlg_some, nlg_none, gv_590_27, gv_590_28, gv_590_29, gv_590_31, gv_590_32, gv_590_33, gv_590_34, pe, tg_12_27, tg_12_28, tg_12_29, tg_12_31, tg_12_32, tg_12_33, tg_12_34, zfit, zisI, sh_590, sh_608, sh_611, e611, z1, z2, z3, z4, z5, z6, l0, l2, l3])
    all_goals repeat' (with_reducible (first | (refine And.intro ?_ ?_) | intro _))
    all_goals try (refine ih _ _ N' (H0 611 v) ?_ ?_ ?_ ?_ ?_ ?_ ?_ ?_ ?_ ?_ ?_ ?_ ?_)
    all_goals try simp (maxDischargeDepth := 12) [pget_pss, pget_psx, nlg_some, nlg_none, pget, pup_app, l0, l2, l3]
    all_goals (first | omega | assumption | (exact ⟨rfl, hW, hF, hG, by rw [e606]; exact h6, nn, n1, n2, by rw [e607]; exact h7⟩) | (exact ⟨hW, hF, hG, by rw [e606]; exact h6, nn, n1, n2, by rw [e607]; exact h7⟩) | (exact ⟨nn, n1, n2, by rw [e607]; exact h7⟩) | (exact h6 _ (by assumption) (by assumption) (by rw [← e606]; assumption)) | (refine wa_608 hW (by omega) ?_ ?_ <;> (first | exact zw_lo _ | exact zw_hi _)) | (exact fa_608 hF rfl) | (rw [pup_row (by decide)]; assumption) | (refine GBk_up hG (Or.inl ((hx.2.2.1 (by omega)).2.1 (by omega)).2)) | (refine GBk_up hG (Or.inr ?_); rw [show 72 + (12 * H0 611 v + v - 72) % 12 = v by omega]; omega) | skip)

theorem up606 {H : PH} {i x : Int} : (pup H 606 i x) 606 = upf (H 606) i x := funext fun j => by
  unfold pup upf
  by_cases e : j = i
  · rw [if_pos ⟨rfl, e⟩, if_pos e]
  · rw [if_neg (fun q => e q.2), if_neg e]
theorem up607 {H : PH} {i x : Int} : (pup H 607 i x) 607 = upf (H 607) i x := funext fun j => by
  unfold pup upf
  by_cases e : j = i
  · rw [if_pos ⟨rfl, e⟩, if_pos e]
  · rw [if_neg (fun q => e q.2), if_neg e]
theorem h6_up {h : Int → Int} {i z : Int} (hi : 0 < h i) : ∀ v, 0 ≤ v → v < 72 → 0 < upf h i (h i - z) v → 0 < h v := by
  intro v _ _ q
  by_cases e : v = i
  · rw [e]
    exact hi
  · rw [upf_ne e] at q
    exact q
set_option maxRecDepth 20000 in
set_option maxHeartbeats 4000000 in
theorem sg_X12_goAlong_63 {G : zG} {us : Nat} {g : Nat → Nat → Int} (pi : Int → Int) (H0 : PH) (hB : BF pi H0) (to : Int) (t0 : 72 ≤ to) (t1 : to < 84) (nn v : Int) (N : Nat)  : ∀ (ls : PL) , pget ls 0 = some (2, 590) → pget ls 1 = some (0, to) → pget ls 2 = some (0, nn) → pget ls 3 = some (0, v) → WT 0 g H0 → 1 ≤ nn → nn ≤ H0 607 (to - 72) → 0 ≤ v → v < 72 → 0 < H0 606 v → it (H0 611) N to = -1 → Tr G us kd_X12_goAlong 2 (zget kd_X12_goAlong 63) 63 ls [] H0 (fun r H' => r = none ∧ WT 0 g H' ∧ frm [12, 91, 92, 93] H0 H' ∧ GBk H0 H' ∧ (∀ v, 0 ≤ v → v < 72 → 0 < H' 606 v → 0 < H0 606 v) ∧ ∃ n, 1 ≤ n ∧ n ≤ H0 607 (to - 72) ∧ H' 607 = upf (H0 607) (to - 72) (H0 607 (to - 72) - n)) := by
  intro ls   l0 l1 l2 l3 hW n1 n2 v0 v1 hv hN
  have z1 : zw (to - 72) = to - 72 := zw_lit (by omega) (by omega)
  have r6 := ra_606 hW v0 v1
  have r7 := ra_607 hW (i := to - 72) (by omega) (by omega)
  refine tr_lab (D := 1) (t := 63) vb_X12_goAlong_63 _ ve_X12_goAlong_63 ?_
  simp (maxDischargeDepth := 12) [vb_X12_goAlong_63, wB, wI, k1, kI, kR, kL, k2, pget, parg, ppush, pcat, zw_lit, zw_m1, zw_m2, zw_m3, zNC_eq, zrow, pup_app, pget_pss, pget_psx, nlg_some, nlg_none, gv_590_27, gv_590_28, gv_590_29, gv_590_31, gv_590_32, gv_590_33, gv_590_34, pe, tg_12_27, tg_12_28, tg_12_29, tg_12_31, tg_12_32, tg_12_33, tg_12_34, zfit, zisI, sh_590, sh_606, sh_607, sh_610, z1, l0, l1, l2, l3]
  repeat' (with_reducible (first | (refine And.intro ?_ ?_) | intro _))
  all_goals try (refine Ca_use (ca_lesser3 _ _ _) (by omega) ?_; rintro _ _ ⟨rfl, z, rfl, hz1, hz2, hz3⟩; simp (maxDischargeDepth := 12) [wB, wI, k1, kI, kR, kL, k2, pget, parg, ppush, pcat, zw_lit, zw_m1, zw_m2, zw_m3, zNC_eq, zrow, pup_app, pget_pss, pget_psx, nlg_some, nlg_none, gv_590_27, gv_590_28, gv_590_29, gv_590_31, gv_590_32, gv_590_33, gv_590_34, pe, tg_12_27, tg_12_28, tg_12_29, tg_12_31, tg_12_32, tg_12_33, tg_12_34, zfit, zisI, sh_590, sh_606, sh_607, sh_610, z1, l0, l1, l2, l3])
  all_goals repeat' (with_reducible (first | (refine And.intro ?_ ?_) | intro _))
  all_goals try ((refine lp_X12_goAlong_126 pi H0 hB to t0 t1 z (upf (H0 606) v (H0 606 v - z)) (upf (H0 607) (to - 72) (H0 607 (to - 72) - z)) (by omega) (by omega) (h6_up hv) rfl (N + 1) _ _ N to ?_ ?_ ?_ ?_ ?_ ?_ ?_ ?_ ?_ ?_ ?_ ?_ ?_) <;> (try simp (maxDischargeDepth := 12) [pget_pss, pget_psx, nlg_some, nlg_none, pget, pup_app, l0, l1]))
  all_goals (first | omega | assumption | ((repeat (first | assumption | exact frm_refl _ _ | (refine wa_606 ?_ (by omega) (by first | omega | exact zw_lo _ | exact zw_hi _) (by first | omega | exact zw_lo _ | exact zw_hi _)) | (refine wa_607 ?_ (by omega) (by first | omega | exact zw_lo _ | exact zw_hi _) (by first | omega | exact zw_lo _ | exact zw_hi _)) | (refine wf_590_31 ?_ (by first | omega | exact zw_lo _ | exact zw_hi _) (by first | omega | exact zw_lo _ | exact zw_hi _)) | (refine wf_590_32 ?_ (by first | omega | exact zw_lo _ | exact zw_hi _) (by first | omega | exact zw_lo _ | exact zw_hi _)) | (refine fa_606 ?_ rfl) | (refine fa_607 ?_ rfl) | (refine ff_590_31 ?_ rfl) | (refine ff_590_32 ?_ rfl))); done) | (rw [pup_row (by decide), pup_row (by decide), pup_row (by decide), pup_row (by decide)]) | (rw [pup_row (by decide), pup_row (by decide), pup_row (by decide), up606, zw_lit (by omega) (by omega)]) | (rw [pup_row (by decide), pup_row (by decide), up607, pup_row (by decide), zw_lit (by omega) (by omega)]) | (intro q q0 q1 q2; rw [pup_row (by decide), pup_row (by decide), pup_row (by decide), pup_row (by decide)] at q2; exact Or.inl q2) | skip)

set_option maxRecDepth 20000 in
set_option maxHeartbeats 4000000 in
theorem lp_X12_goAlong_12 {G : zG} {us : Nat} {g : Nat → Nat → Int} (pi : Int → Int) (H0 : PH) (hB : BF pi H0) (to : Int) (t0 : 72 ≤ to) (t1 : to < 84) (N0 : Nat) (hN0 : it (H0 611) N0 to = -1) (hW : WT 0 g H0)   : ∀ (n : Nat) (ls : PL) (N : Nat) (nn : Int) (v : Int), ((N : Int)).toNat < n → pget ls 0 = some (2, 590) → pget ls 1 = some (0, to) → pget ls 2 = some (0, nn) → pget ls 3 = some (0, v) → 1 ≤ nn → nn ≤ H0 607 (to - 72) → it (H0 611) N v = -1 → 0 ≤ v → v < 84 → H0 610 v < 1000000 → Tr G us kd_X12_goAlong 2 (zget kd_X12_goAlong 12) 12 ls [] H0 (fun r H' => r = none ∧ WT 0 g H' ∧ frm [12, 91, 92, 93] H0 H' ∧ GBk H0 H' ∧ (∀ v, 0 ≤ v → v < 72 → 0 < H' 606 v → 0 < H0 606 v) ∧ ∃ n, 1 ≤ n ∧ n ≤ H0 607 (to - 72) ∧ H' 607 = upf (H0 607) (to - 72) (H0 607 (to - 72) - n)) := by
  intro n
  induction n with
  | zero => intros; omega
  | succ n ih =>
    intro ls N nn v hn  l0 l1 l2 l3 n1 n2 hN v0 v1 hv
    have hx := BF_nx hB v0 v1
    obtain ⟨N', rfl, hN'⟩ := it_step hN v0
    have z1 : zw (12 * v) = 12 * v := zw_lit (by omega) (by omega)
    have z2 : zw (12 * v + H0 611 v) = 12 * v + H0 611 v := zw_lit (by omega) (by omega)
    have z3 : zw (12 * v + H0 611 v - 72) = 12 * v + H0 611 v - 72 := zw_lit (by omega) (by omega)
    have z4 : zw (12 * H0 611 v) = 12 * H0 611 v := zw_lit (by omega) (by omega)
    have z5 : zw (12 * H0 611 v + v) = 12 * H0 611 v + v := zw_lit (by omega) (by omega)
    have z6 : zw (12 * H0 611 v + v - 72) = 12 * H0 611 v + v - 72 := zw_lit (by omega) (by omega)
    refine tr_lab (D := 1) (t := 12) vb_X12_goAlong_12 _ ve_X12_goAlong_12 ?_
    simp (maxDischargeDepth := 12) [vb_X12_goAlong_12, wB, wI, k1, kI, kR, kL, k2, pget, parg, ppush, pcat, zw_lit, zw_m1, zw_m2, zw_m3, zNC_eq, zrow, pup_app, pget_pss, pget_psx, nlg_some, nlg_none, gv_590_27, gv_590_28, gv_590_29, gv_590_31, gv_590_32, gv_590_33, gv_590_34, pe, tg_12_27, tg_12_28, tg_12_29, tg_12_31, tg_12_32, tg_12_33, tg_12_34, zfit, zisI, sh_590, sh_608, sh_611, z1, z2, z3, z4, z5, z6, l0, l1, l2, l3]
    repeat' (with_reducible (first | (refine And.intro ?_ ?_) | intro _))
    all_goals try (refine Ca_use (ca_lesser3 _ _ _) (by omega) ?_; rintro _ _ ⟨rfl, z, rfl, hz1, hz2, hz3⟩; simp (maxDischargeDepth := 12) [wB, wI, k1, kI, kR, kL, k2, pget, parg, ppush, pcat, zw_lit, zw_m1, zw_m2, zw_m3, zNC_eq, zrow, pup_app, pget_pss, pget_psx, nlg_some, nlg_none, gv_590_27, gv_590_28, gv_590_29, gv_590_31, gv_590_32, gv_590_33, gv_590_34, pe, tg_12_27, tg_12_28, tg_12_29, tg_12_31, tg_12_32, tg_12_33, tg_12_34, zfit, zisI, sh_590, sh_608, sh_611, z1, z2, z3, z4, z5, z6, l0, l1, l2, l3])
    all_goals repeat' (with_reducible (first | (refine And.intro ?_ ?_) | intro _))
    all_goals try (refine tr_lab (D := 1) (t := 57) vb_X12_goAlong_57 _ ve_X12_goAlong_57 ?_; simp (maxDischargeDepth := 12) [vb_X12_goAlong_57, wB, wI, k1, kI, kR, kL, k2, pget, parg, ppush, pcat, zw_lit, zw_m1, zw_m2, zw_m3, zNC_eq, zrow, pup_app, pget_pss, pget_psx, nlg_some, nlg_none, gv_590_27, gv_590_28, gv_590_29, gv_590_31, gv_590_32, gv_590_33, gv_590_34, pe, tg_12_27, tg_12_28, tg_12_29, tg_12_31, tg_12_32, tg_12_33, tg_12_34, zfit, zisI, sh_590, sh_608, sh_611, z1, z2, z3, z4, z5, z6, l0, l1, l2, l3])
    all_goals repeat' (with_reducible (first | (refine And.intro ?_ ?_) | intro _))
    all_goals try ((refine sg_X12_goAlong_63 pi H0 hB to t0 t1 nn v N0 _ ?_ ?_ ?_ ?_ ?_ ?_ ?_ ?_ ?_ ?_ ?_) <;> (try simp (maxDischargeDepth := 12) [pget_pss, pget_psx, nlg_some, nlg_none, pget, pup_app, l0, l1, l2, l3]))
    all_goals try ((first | ((refine ih _ N' z (H0 611 v) ?_ ?_ ?_ ?_ ?_ ?_ ?_ ?_ ?_ ?_ ?_) <;> (try simp (maxDischargeDepth := 12) [pget_pss, pget_psx, nlg_some, nlg_none, pget, pup_app, l0, l1, l2, l3])) | ((refine ih _ N' nn (H0 611 v) ?_ ?_ ?_ ?_ ?_ ?_ ?_ ?_ ?_ ?_ ?_) <;> (try simp (maxDischargeDepth := 12) [pget_pss, pget_psx, nlg_some, nlg_none, pget, pup_app, l0, l1, l2, l3]))))
    all_goals try (refine ih _ N' nn (H0 611 v) ?_ ?_ ?_ ?_ ?_ ?_ ?_ ?_ ?_ ?_ ?_)
    all_goals try simp (maxDischargeDepth := 12) [pget_pss, pget_psx, nlg_some, nlg_none, pget, pup_app, l0, l1, l2, l3]
    all_goals (first | omega | assumption | skip)

set_option maxRecDepth 20000 in
set_option maxHeartbeats 4000000 in
theorem ca_X12_goAlong {G : zG} {us : Nat} {g : Nat → Nat → Int} (pi : Int → Int) (to : Int) (H : PH) (hW : WT 0 g H) (hB : BF pi H) (t0 : 72 ≤ to) (t1 : to < 84) (hw : 0 < H 607 (to - 72)) (hv : H 610 to < 1000000) : Ca G us 2 223 [(2, 590), (0, to)] H (fun r H' => r = none ∧ WT 0 g H' ∧ frm [12, 91, 92, 93] H H' ∧ GBk H H' ∧ (∀ v, 0 ≤ v → v < 72 → 0 < H' 606 v → 0 < H 606 v) ∧ ∃ n, 1 ≤ n ∧ n ≤ H 607 (to - 72) ∧ H' 607 = upf (H 607) (to - 72) (H 607 (to - 72) - n)) := by
  have z1 : zw (to - 72) = to - 72 := zw_lit (by omega) (by omega)
  obtain ⟨N, hN⟩ := hB.2.2.2.2.2.2 to (by omega) t1
  refine ⟨_, _, _, _, _, _, vm_X12_goAlong, by simp [pcat], ?_⟩
  refine tr_lab (D := 1) (t := 0) vb_X12_goAlong_0 _ ve_X12_goAlong_0 ?_
  simp (maxDischargeDepth := 12) [vb_X12_goAlong_0, wB, wI, k1, kI, kR, kL, k2, pget, parg, ppush, pcat, zw_lit, zw_m1, zw_m2, zw_m3, zNC_eq, zrow, pup_app, pget_pss, pget_psx, nlg_some, nlg_none, gv_590_27, gv_590_28, gv_590_29, gv_590_31, gv_590_32, gv_590_33, gv_590_34, pe, tg_12_27, tg_12_28, tg_12_29, tg_12_31, tg_12_32, tg_12_33, tg_12_34, zfit, zisI, sh_590, sh_607, z1]
  repeat' (with_reducible (first | (refine And.intro ?_ ?_) | intro _))
  all_goals try ((refine lp_X12_goAlong_12 pi H hB to t0 t1 N hN hW (N + 1) _ N (H 607 (to - 72)) to ?_ ?_ ?_ ?_ ?_ ?_ ?_ ?_ ?_ ?_ ?_) <;> (try simp (maxDischargeDepth := 12) [pget_pss, pget_psx, nlg_some, nlg_none, pget, pup_app]))
  all_goals (first | omega | assumption | skip)

def cq_X12_layShort : aC := (215, 8, [(2, 0, 0, 12)], none, [], 0, [12, 83, 84, 85, 86, 87, 88, 89, 90, 91, 92, 93, 94], [], [], [])
def tq_X12_layShort : List aL := [(0, ([(0, ((2, 0, 0, 12), (0, 0, 0), (0, 0), []))], [], []), 493, [(1, 0)]),
  (129, ([(0, ((2, 0, 0, 12), (0, 0, 0), (0, 0), [])), (1, ((0, 0, 11, 1), (0, 0, 0), (0, 0), []))], [((0, 0, 11, 1), (0, 0, 0), (0, 0), []), ((2, 0, 0, 92), (0, 0, 0), (0, 0), [])], []), 51, [(1, -4)]),
  (130, ([(0, ((2, 0, 0, 12), (0, 0, 0), (0, 0), [])), (1, ((0, 0, 11, 1), (0, 0, 0), (0, 0), []))], [((0, 0, 2147483647, 1), (0, 0, 0), (0, 0), []), ((0, 0, 11, 1), (0, 0, 0), (0, 0), []), ((2, 0, 0, 92), (0, 0, 0), (0, 0), [])], []), 50, [(1, -4)]),
  (137, ([(0, ((2, 0, 0, 12), (0, 0, 0), (0, 0), [])), (1, ((0, 12, 12, 1), (0, 0, 0), (0, 0), []))], [], []), 1, [(1, 0)]),
  (16, ([(0, ((2, 0, 0, 12), (0, 0, 0), (0, 0), [])), (1, ((0, 0, 72, 1), (0, 0, 0), (0, 0), []))], [], []), 491, [(1, -6)]),
  (60, ([(0, ((2, 0, 0, 12), (0, 0, 0), (0, 0), [])), (1, ((0, 0, 11, 1), (0, 0, 0), (0, 0), []))], [((0, 0, 71, 1), (0, 0, 0), (0, 0), []), ((2, 0, 0, 91), (0, 0, 0), (0, 0), [])], []), 490, [(1, -6)]),
  (64, ([(0, ((2, 0, 0, 12), (0, 0, 0), (0, 0), [])), (1, ((0, 12, 71, 1), (0, 0, 0), (0, 0), []))], [((0, 0, 71, 1), (0, 0, 0), (0, 0), []), ((2, 0, 0, 91), (0, 0, 0), (0, 0), [])], []), 489, [(1, -6)]),
  (81, ([(0, ((2, 0, 0, 12), (0, 0, 0), (0, 0), [])), (1, ((0, 12, 71, 1), (0, 0, 0), (0, 0), []))], [((0, 0, 71, 1), (0, 0, 0), (0, 0), []), ((2, 0, 0, 91), (0, 0, 0), (0, 0), [])], []), 488, [(1, -6)]),
  (82, ([(0, ((2, 0, 0, 12), (0, 0, 0), (0, 0), [])), (1, ((0, 0, 71, 1), (0, 0, 0), (0, 0), []))], [((0, -2147483648, 2147483647, 1), (0, 0, 0), (0, 0), []), ((0, 0, 71, 1), (0, 0, 0), (0, 0), []), ((2, 0, 0, 91), (0, 0, 0), (0, 0), [])], []), 487, [(1, -6)]),
  (89, ([(0, ((2, 0, 0, 12), (0, 0, 0), (0, 0), [])), (1, ((0, 72, 72, 1), (0, 0, 0), (0, 0), []))], [], []), 54, [(1, 0)]),
  (91, ([(0, ((2, 0, 0, 12), (0, 0, 0), (0, 0), [])), (1, ((0, 0, 12, 1), (0, 0, 0), (0, 0), []))], [], []), 52, [(1, -4)])]
def aq_X12_layShort : List aL := [(139, ([(0, ((2, 0, 0, 12), (0, 0, 0), (0, 0), [])), (1, ((0, 0, 0, 0), (0, 0, 0), (0, 0), []))], [], []), 0, [(1, 0)])]
def bq_X12_layShort : List aB := [(0, vb_X12_layShort_0, some 16), (16, vb_X12_layShort_16, some 60), (60, vb_X12_layShort_60, some 64), (64, vb_X12_layShort_64, some 81), (81, vb_X12_layShort_81, some 82), (82, vb_X12_layShort_82, some 89), (89, vb_X12_layShort_89, some 91), (91, vb_X12_layShort_91, some 129), (129, vb_X12_layShort_129, some 130), (130, vb_X12_layShort_130, some 137), (137, vb_X12_layShort_137, some 139)]
def zq_X12_layShort : List (Nat × aC) := [(1, cc_X12_layReads), (35, cc_X12_isBill), (50, cc_X12_due), (54, (cc_X12_most (0) (0) 0 (-2147483648) (2147483647) 1)), (66, cc_X12_isSource), (104, cc_X12_isBill), (113, cc_X12_due), (123, (cc_X12_most (0) (0) 0 (-2147483648) (2147483647) 1))]
theorem kq_X12_layShort : amchkA (some (0, 1, 0, 1)) tq_X12_layShort aq_X12_layShort bq_X12_layShort zq_X12_layShort cq_X12_layShort = true := by decide +kernel
theorem bk_X12_layShort : blOK kd_X12_layShort bq_X12_layShort := ⟨ve_X12_layShort_0, ve_X12_layShort_16, ve_X12_layShort_60, ve_X12_layShort_64, ve_X12_layShort_81, ve_X12_layShort_82, ve_X12_layShort_89, ve_X12_layShort_91, ve_X12_layShort_129, ve_X12_layShort_130, ve_X12_layShort_137, trivial⟩
theorem zk_X12_layShort : csOK zq_X12_layShort := ⟨ct_X12_layReads, ct_X12_isBill, ct_X12_due, (ct_X12_most (0) (0) 0 (-2147483648) (2147483647) 1), ct_X12_isSource, ct_X12_isBill, ct_X12_due, (ct_X12_most (0) (0) 0 (-2147483648) (2147483647) 1), trivial⟩
theorem row608 {H H' : PH} (h : frm [84] H H') : H' 608 = H 608 := funext fun j => by
  have e := h 608 j (by decide) (by
    rw [show tau 608 = 93 from rfl]
    rfl)
  have e1 : ∀ X : PH, gv X ((608 : Nat) : Int) j = X 608 j := fun X => gv_none (zrt_row (c := 608) (by decide) (by decide +kernel))
  rw [e1, e1] at e
  exact e
theorem ca_short_apart {G : zG} {us : Nat} {g : Nat → Nat → Int} (hg : GOK g) (s b : Int) (H : PH) (hW : WT 0 g H) (s0 : 0 ≤ s) (s1 : s ≤ 71) (b0 : 0 ≤ b) (b1 : b ≤ 11) : Ca G us 5 213 [(2, 590), (0, s), (0, b)] H (fun r H' => WT 0 g H' ∧ (∀ H0 : PH, frm [12, 83, 84, 85, 86, 87, 88, 89, 90, 91, 92, 93, 94] H0 H → frm [12, 83, 84, 85, 86, 87, 88, 89, 90, 91, 92, 93, 94] H0 H') ∧ H' 608 = H 608 ∧ ∃ x, r = some (0, x) ∧ 0 ≤ x ∧ x ≤ 32) :=
  Ca_mono (by decide) (fun r H' q => ⟨q.1, fun H0 h0 => frm_trans h0 (frm_sub rfl q.2.2.2.1), row608 q.2.2.2.1, rok_int q.2.1⟩) (ct_X12_apartFrom G us g H _ hg hW ⟨sref 590 (by decide) rfl, vin s0 s1, vin b0 b1, trivial⟩ (fun f hf => by cases hf))
theorem z_next {H X : PH} {k : Int} (hz : ∀ q, 0 ≤ q → q < k → H 608 q = 0) (e : X 608 = (pup H 608 k 0) 608) : ∀ q, 0 ≤ q → q < k + 1 → X 608 q = 0 := by
  intro q q0 q1
  rw [e]
  by_cases c : q = k
  · exact if_pos ⟨rfl, c⟩
  · have : pup H 608 k 0 608 q = H 608 q := if_neg (fun z => c z.2)
    rw [this]
    exact hz q q0 (by omega)

set_option maxRecDepth 20000 in
set_option maxHeartbeats 4000000 in
theorem lp_X12_layShort_139 {G : zG} {us : Nat} {g : Nat → Nat → Int} (hg : GOK g) (H0 : PH)   : ∀ (n : Nat) (ls : PL) (H : PH) (k : Int), (864 - k).toNat < n → pget ls 0 = some (2, 590) → pget ls 1 = some (0, k) → WT 0 g H → frm [12, 83, 84, 85, 86, 87, 88, 89, 90, 91, 92, 93, 94] H0 H → (∀ q, 0 ≤ q → q < k → H 608 q = 0) → 0 ≤ k → k ≤ 864 → Tr G us kd_X12_layShort 8 (zget kd_X12_layShort 139) 139 ls [] H (fun r H' => r = none ∧ WT 0 g H' ∧ frm [12, 83, 84, 85, 86, 87, 88, 89, 90, 91, 92, 93, 94] H0 H' ∧ ∀ q, 0 ≤ q → q < 864 → H' 608 q = 0) := by
  intro n
  induction n with
  | zero => intros; omega
  | succ n ih =>
    intro ls H k hn  l0 l1 hW hF hz kk0 kk1
    have zd : q2 (· / ·) k 12 = k / 12 := q2_div (by omega) (by omega) (by omega) (by omega)
    have zr : q2 (fun x y => x - x / y * y) k 12 = k % 12 := q2_rem (by omega) (by omega) (by omega) (by omega)
    have zk : zw (k + 1) = k + 1 := zw_lit (by omega) (by omega)
    refine tr_lab (D := 7) (t := 139) vb_X12_layShort_139 _ ve_X12_layShort_139 ?_
    simp (maxDischargeDepth := 12) [vb_X12_layShort_139, wB, wI, k1, kI, kR, kL, k2, pget, parg, ppush, pcat, zw_lit, zw_m1, zw_m2, zw_m3, zNC_eq, zrow, pup_app, pget_pss, pget_psx, nlg_some, nlg_none, gv_590_25, gv_590_27, gv_590_28, gv_590_29, gv_590_30, pe, tg_12_25, tg_12_27, tg_12_28, tg_12_29, tg_12_30, tg_12_31, tg_12_32, zfit, zisI, sh_590, sh_606, sh_607, sh_608, sh_609, zd, zr, zk, l0, l1]
    repeat' (with_reducible (first | (refine And.intro ?_ ?_) | intro _))
    all_goals try (refine Ca_use (ca_short_apart hg _ _ _ (by first | assumption | (refine wa_608 ?_ (by omega) (by omega) (by omega); assumption)) (by omega) (by omega) (by omega) (by omega)) (by omega) ?_; rintro _ _ ⟨hW2, hF2, e608, x, rfl, x0, x1⟩; simp (maxDischargeDepth := 12) [wB, wI, k1, kI, kR, kL, k2, pget, parg, ppush, pcat, zw_lit, zw_m1, zw_m2, zw_m3, zNC_eq, zrow, pup_app, pget_pss, pget_psx, nlg_some, nlg_none, gv_590_25, gv_590_27, gv_590_28, gv_590_29, gv_590_30, pe, tg_12_25, tg_12_27, tg_12_28, tg_12_29, tg_12_30, tg_12_31, tg_12_32, zfit, zisI, sh_590, sh_606, sh_607, sh_608, sh_609, zd, zr, zk, l0, l1])
    all_goals repeat' (with_reducible (first | (refine And.intro ?_ ?_) | intro _))
    all_goals try (refine tr_lab (D := 7) (t := 195) vb_X12_layShort_195 _ ve_X12_layShort_195 ?_; simp (maxDischargeDepth := 12) [vb_X12_layShort_195, wB, wI, k1, kI, kR, kL, k2, pget, parg, ppush, pcat, zw_lit, zw_m1, zw_m2, zw_m3, zNC_eq, zrow, pup_app, pget_pss, pget_psx, nlg_some, nlg_none, gv_590_25, gv_590_27, gv_590_28, gv_590_29, gv_590_30, pe, tg_12_25, tg_12_27, tg_12_28, tg_12_29, tg_12_30, tg_12_31, tg_12_32, zfit, zisI, sh_590, sh_606, sh_607, sh_608, sh_609, zd, zr, zk, l0, l1])
    all_goals repeat' (with_reducible (first | (refine And.intro ?_ ?_) | intro _))
    all_goals try (refine tr_lab (D := 7) (t := 197) vb_X12_layShort_197 _ ve_X12_layShort_197 ?_; simp (maxDischargeDepth := 12) [vb_X12_layShort_197, wB, wI, k1, kI, kR, kL, k2, pget, parg, ppush, pcat, zw_lit, zw_m1, zw_m2, zw_m3, zNC_eq, zrow, pup_app, pget_pss, pget_psx, nlg_some, nlg_none, gv_590_25, gv_590_27, gv_590_28, gv_590_29, gv_590_30, pe, tg_12_25, tg_12_27, tg_12_28, tg_12_29, tg_12_30, tg_12_31, tg_12_32, zfit, zisI, sh_590, sh_606, sh_607, sh_608, sh_609, zd, zr, zk, l0, l1])
    all_goals repeat' (with_reducible (first | (refine And.intro ?_ ?_) | intro _))
    all_goals try (refine tr_lab (D := 7) (t := 204) vb_X12_layShort_204 _ ve_X12_layShort_204 ?_; simp (maxDischargeDepth := 12) [vb_X12_layShort_204, wB, wI, k1, kI, kR, kL, k2, pget, parg, ppush, pcat, zw_lit, zw_m1, zw_m2, zw_m3, zNC_eq, zrow, pup_app, pget_pss, pget_psx, nlg_some, nlg_none, gv_590_25, gv_590_27, gv_590_28, gv_590_29, gv_590_30, pe, tg_12_25, tg_12_27, tg_12_28, tg_12_29, tg_12_30, tg_12_31, tg_12_32, zfit, zisI, sh_590, sh_606, sh_607, sh_608, sh_609, zd, zr, zk, l0, l1])
    all_goals repeat' (with_reducible (first | (refine And.intro ?_ ?_) | intro _))
    all_goals try (refine ih _ _ (k + 1) ?_ ?_ ?_ ?_ ?_ ?_ ?_ ?_)
    all_goals try simp (maxDischargeDepth := 12) [pget_pss, pget_psx, nlg_some, nlg_none, pget, pup_app, l0, l1]
    all_goals (first | omega | assumption | ((repeat (first | assumption | (refine wa_608 ?_ (by omega) (by omega) (by omega)) | (refine wa_609 ?_ (by omega) (by omega) (by omega)) | (refine fa_608 ?_ rfl) | (refine fa_609 ?_ rfl) | (refine hF2 _ ?_))); done) | (exact z_next hz e608) | (exact hz _ (by assumption) (by omega)) | (intro q q0 q1 q2; exact hz q q0 (by omega)) | (exact z_next (X := pup H 608 k 0) hz rfl) | (exact z_next hz (by rw [pup_row (by decide)])) | (exact z_next hz (by rw [pup_row (by decide), e608])) | (exact ⟨rfl, hW, hF, fun q q0 q1 => hz q q0 (by omega)⟩) | (exact ⟨hW, hF, fun q q0 q1 => hz q q0 (by omega)⟩) | skip)

theorem ca_X12_layShort {G : zG} {us : Nat} {g : Nat → Nat → Int} (hg : GOK g) (H : PH) (hW : WT 0 g H) : Ca G us 8 215 [(2, 590)] H (fun r H' => r = none ∧ WT 0 g H' ∧ frm [12, 83, 84, 85, 86, 87, 88, 89, 90, 91, 92, 93, 94] H H' ∧ ∀ q, 0 ≤ q → q < 864 → H' 608 q = 0) := by
  refine am_okQ (c := cq_X12_layShort) vm_X12_layShort bk_X12_layShort (by decide) kq_X12_layShort zk_X12_layShort (as := [((2 : Nat), (590 : Int))]) hg hW (show aargs [(2, 0, 0, 12)] [(2, 590)] from ⟨sref 590 (by decide) rfl, trivial⟩) (fun f hf => by cases hf) ?_ ?_
  · intro r H2 h1 h2 h3 h4
    obtain ⟨x, rfl, x0, x1⟩ := rok_int h1
    omega
  · intro l hl ls1 ls st H' hs
    rw [List.mem_singleton.mp hl] at hs ⊢
    have est := mem_sok0 hs rfl
    subst est
    obtain ⟨⟨h1, h2, h3⟩, hW', hF'⟩ := hs
    have l0 := get_ref h1 (v := 0) (t := 12) (List.mem_cons_self) 590 (by decide +kernel)
    obtain ⟨k, l1, o0, o1⟩ := get_int h1 (v := 1) (List.mem_cons_of_mem _ List.mem_cons_self)
    have ek : k = 0 := by omega
    subst ek
    exact lp_X12_layShort_139 hg H 865 ls H' 0 (by omega) l0 l1 hW' hF' (fun q q0 q1 => by omega) (by omega) (by omega)
def mx0 (x : Int) : Int := if 0 < x then x else 0
def sumP (W : Int → Int) : Nat → Int
  | 0 => 0
  | n + 1 => sumP W n + mx0 (W n)
theorem sumP_up {W : Int → Int} {v x : Int} : ∀ n : Nat, (v < n → 0 ≤ v → sumP (upf W v x) n = sumP W n - (mx0 (W v) - mx0 x)) ∧ (¬ (0 ≤ v ∧ v < n) → sumP (upf W v x) n = sumP W n)
  | 0 => ⟨fun h h0 => by omega, fun _ => rfl⟩
  | n + 1 => by
    have ih := sumP_up (W := W) (v := v) (x := x) n
    refine ⟨fun h h0 => ?_, fun h => ?_⟩
    · show sumP (upf W v x) n + mx0 (upf W v x n) = sumP W n + mx0 (W n) - (mx0 (W v) - mx0 x)
      by_cases e : v = n
      · rw [ih.2 (by omega), e, upf_eq]
        omega
      · rw [ih.1 (by omega) h0, upf_ne (fun q => e q.symm)]
        omega
    · show sumP (upf W v x) n + mx0 (upf W v x n) = sumP W n + mx0 (W n)
      rw [ih.2 (by omega), upf_ne (by omega)]
theorem sumP_nonneg {W : Int → Int} : ∀ n : Nat, 0 ≤ sumP W n
  | 0 => Int.le_refl _
  | n + 1 => by
    have := sumP_nonneg (W := W) n
    show 0 ≤ sumP W n + mx0 (W n)
    unfold mx0
    split <;> omega
theorem sumP_dn {w w' : Int → Int} {v n : Int} (v0 : 0 ≤ v) (v1 : v < 12) (n1 : 1 ≤ n) (n2 : n ≤ w v) (e : w' = upf w v (w v - n)) : sumP w' 12 < sumP w 12 := by
  rw [e]
  have := (sumP_up (W := w) (v := v) (x := w v - n) 12).1 (by omega) v0
  have h1 : mx0 (w v) = w v := if_pos (by omega)
  have h2 : mx0 (w v - n) = w v - n := by
    unfold mx0
    split <;> omega
  omega
theorem fr609 {H H' : PH} (h : frm [12, 91, 92, 93] H H') : H' 609 = H 609 := funext fun j => by
  have e := h 609 j (by decide) (by
    rw [show tau 609 = 94 from rfl]
    rfl)
  have e1 : ∀ X : PH, gv X ((609 : Nat) : Int) j = X 609 j := fun X => gv_none (zrt_row (c := 609) (by decide) (by decide +kernel))
  rw [e1, e1] at e
  exact e
theorem fr591 {H H' : PH} (h : frm [12, 91, 92, 93] H H') : H' 591 = H 591 := funext fun j => by
  have e := h 591 j (by decide) (by
    rw [show tau 591 = 32 from rfl]
    rfl)
  have e1 : ∀ X : PH, gv X ((591 : Nat) : Int) j = X 591 j := fun X => gv_none (zrt_row (c := 591) (by decide) (by decide +kernel))
  rw [e1, e1] at e
  exact e
theorem fr607 {H H' : PH} (h : frm [95, 96] H H') : H' 607 = H 607 := funext fun j => by
  have e := h 607 j (by decide) (by
    rw [show tau 607 = 92 from rfl]
    rfl)
  have e1 : ∀ X : PH, gv X ((607 : Nat) : Int) j = X 607 j := fun X => gv_none (zrt_row (c := 607) (by decide) (by decide +kernel))
  rw [e1, e1] at e
  exact e
theorem best_next {pi : Int → Int} {H H' : PH} (hB : BF pi H) (hA : ∀ q, 0 ≤ q → q < 864 → AK H q) (e9 : H' 609 = H 609) (e1 : H' 591 = H 591) (hG : GBk H H') (h6 : ∀ v, 0 ≤ v → v < 72 → 0 < H' 606 v → 0 < H 606 v) : PotH (H 610) H' := by
  unfold PotH
  rw [e9, e1]
  refine Pot_next hB.1 hB.2 (fun s b s0 s1 b0 b1 hF => ?_) (fun s b s0 s1 b0 b1 hq => ?_) h6
  · have := hA (12 * s + (b - 72)) (by omega) (by omega) hF
    rw [show (12 * s + (b - 72)) / 12 = s by omega, show 72 + (12 * s + (b - 72)) % 12 = b by omega] at this
    exact this
  · have := hG (12 * s + (b - 72)) (by omega) (by omega) hq
    rw [show (12 * s + (b - 72)) / 12 = s by omega, show 72 + (12 * s + (b - 72)) % 12 = b by omega] at this
    exact this
theorem Pot_0 {H : PH} {g : Nat → Nat → Int} (hW : WT 0 g H) (hz : ∀ q, 0 ≤ q → q < 864 → H 608 q = 0) : PotH (fun _ => 0) H := by
  refine ⟨fun v _ _ => by dsimp only; omega, fun v _ _ => by dsimp only; omega, fun v _ _ _ => by dsimp only; omega, fun s b s0 s1 b0 b1 hF _ => ?_, fun s b s0 s1 b0 b1 hF hb _ => ?_⟩
  · have := ra_609 hW (i := 12 * s + (b - 72)) (by omega) (by omega)
    dsimp only
    omega
  · rw [hz _ (by omega) (by omega)] at hb
    omega

set_option maxRecDepth 20000 in
set_option maxHeartbeats 4000000 in
theorem sg_X12_layBest_76a {G : zG} {us : Nat} {g : Nat → Nat → Int} (H0 : PH)   : ∀ (ls : PL) (H : PH), pget ls 0 = some (2, 590) → pget ls 2 = some (0, -1) → WT 0 g H → frm [12, 83, 84, 85, 86, 87, 88, 89, 90, 91, 92, 93, 94, 95, 96] H0 H → Tr G us kd_X12_layBest 9 (zget kd_X12_layBest 76) 76 ls [] H (fun r H' => r = none ∧ WT 0 g H' ∧ frm [12, 83, 84, 85, 86, 87, 88, 89, 90, 91, 92, 93, 94, 95, 96] H0 H') := by
  intro ls H  l0 l2 hW hF
  refine tr_lab (D := 8) (t := 76) vb_X12_layBest_76 _ ve_X12_layBest_76 ?_
  simp (maxDischargeDepth := 12) [vb_X12_layBest_76, wB, wI, k1, kI, kR, kL, k2, pget, parg, ppush, pcat, zw_lit, zw_m1, zw_m2, zw_m3, zNC_eq, zrow, pup_app, pget_pss, pget_psx, nlg_some, nlg_none, gv_590_28, gv_590_33, tg_12_28, tg_12_33, sh_590, l0, l2]
  repeat' (with_reducible (first | (refine And.intro ?_ ?_) | intro _))
  all_goals try (refine tr_lab (D := 8) (t := 85) vb_X12_layBest_85 _ ve_X12_layBest_85 ?_; simp (maxDischargeDepth := 12) [vb_X12_layBest_85, wB, wI, k1, kI, kR, kL, k2, pget, parg, ppush, pcat, zw_lit, zw_m1, zw_m2, zw_m3, zNC_eq, zrow, pup_app, pget_pss, pget_psx, nlg_some, nlg_none, gv_590_28, gv_590_33, tg_12_28, tg_12_33, sh_590, l0, l2])
  all_goals repeat' (with_reducible (first | (refine And.intro ?_ ?_) | intro _))
  all_goals try (refine tr_lab (D := 8) (t := 86) vb_X12_layBest_86 _ ve_X12_layBest_86 ?_; simp (maxDischargeDepth := 12) [vb_X12_layBest_86, wB, wI, k1, kI, kR, kL, k2, pget, parg, ppush, pcat, zw_lit, zw_m1, zw_m2, zw_m3, zNC_eq, zrow, pup_app, pget_pss, pget_psx, nlg_some, nlg_none, gv_590_28, gv_590_33, tg_12_28, tg_12_33, sh_590, l0, l2])
  all_goals repeat' (with_reducible (first | (refine And.intro ?_ ?_) | intro _))
  all_goals try (refine Ca_use (ca_X12_goAlong pi c H hW hB (by omega) (by omega) (by assumption) (by assumption)) (by omega) ?_; rintro _ _ ⟨rfl, hW2, hF2, hG2, h62, n, n1, n2, e7⟩; simp (maxDischargeDepth := 12) [wB, wI, k1, kI, kR, kL, k2, pget, parg, ppush, pcat, zw_lit, zw_m1, zw_m2, zw_m3, zNC_eq, zrow, pup_app, pget_pss, pget_psx, nlg_some, nlg_none, gv_590_28, gv_590_33, tg_12_28, tg_12_33, sh_590, l0, l2])
  all_goals repeat' (with_reducible (first | (refine And.intro ?_ ?_) | intro _))
  all_goals try (refine tr_lab (D := 8) (t := 96) vb_X12_layBest_96 _ ve_X12_layBest_96 ?_; simp (maxDischargeDepth := 12) [vb_X12_layBest_96, wB, wI, k1, kI, kR, kL, k2, pget, parg, ppush, pcat, zw_lit, zw_m1, zw_m2, zw_m3, zNC_eq, zrow, pup_app, pget_pss, pget_psx, nlg_some, nlg_none, gv_590_28, gv_590_33, tg_12_28, tg_12_33, sh_590, l0, l2])
  all_goals repeat' (with_reducible (first | (refine And.intro ?_ ?_) | intro _))
  all_goals try (refine tr_lab (D := 8) (t := 6) vb_X12_layBest_6 _ ve_X12_layBest_6 ?_; simp (maxDischargeDepth := 12) [vb_X12_layBest_6, wB, wI, k1, kI, kR, kL, k2, pget, parg, ppush, pcat, zw_lit, zw_m1, zw_m2, zw_m3, zNC_eq, zrow, pup_app, pget_pss, pget_psx, nlg_some, nlg_none, gv_590_28, gv_590_33, tg_12_28, tg_12_33, sh_590, l0, l2])
  all_goals repeat' (with_reducible (first | (refine And.intro ?_ ?_) | intro _))
  all_goals try (refine Ca_use (ca_X12_layWays pi H hW hp) (by omega) ?_; rintro _ _ ⟨rfl, hW2, hF2, hB2, hA2⟩; simp (maxDischargeDepth := 12) [wB, wI, k1, kI, kR, kL, k2, pget, parg, ppush, pcat, zw_lit, zw_m1, zw_m2, zw_m3, zNC_eq, zrow, pup_app, pget_pss, pget_psx, nlg_some, nlg_none, gv_590_28, gv_590_33, tg_12_28, tg_12_33, sh_590, l0, l2])
  all_goals repeat' (with_reducible (first | (refine And.intro ?_ ?_) | intro _))
  all_goals try (refine tr_lab (D := 8) (t := 99) vb_X12_layBest_99 _ ve_X12_layBest_99 ?_; simp (maxDischargeDepth := 12) [vb_X12_layBest_99, wB, wI, k1, kI, kR, kL, k2, pget, parg, ppush, pcat, zw_lit, zw_m1, zw_m2, zw_m3, zNC_eq, zrow, pup_app, pget_pss, pget_psx, nlg_some, nlg_none, gv_590_28, gv_590_33, tg_12_28, tg_12_33, sh_590, l0, l2])
  all_goals repeat' (with_reducible (first | (refine And.intro ?_ ?_) | intro _))
  all_goals (first | exact ⟨rfl, hW, hF⟩ | exact ⟨hW, hF⟩ | assumption | skip)

set_option maxRecDepth 20000 in
set_option maxHeartbeats 4000000 in
theorem sg_X12_layBest_76b {G : zG} {us : Nat} {g : Nat → Nat → Int} (H0 : PH) (S : Int) (ihx : ∀ (ls : PL) (H : PH) (pi : Int → Int), sumP (H 607) 12 < S → pget ls 0 = some (2, 590) → pget ls 1 = some (0, 1) → WT 0 g H → frm [12, 83, 84, 85, 86, 87, 88, 89, 90, 91, 92, 93, 94, 95, 96] H0 H → PotH pi H → Tr G us kd_X12_layBest 9 (zget kd_X12_layBest 6) 6 ls [] H (fun r H' => r = none ∧ WT 0 g H' ∧ frm [12, 83, 84, 85, 86, 87, 88, 89, 90, 91, 92, 93, 94, 95, 96] H0 H')) (pi : Int → Int) (c : Int) (c0 : 72 ≤ c) (c1 : c < 84)  : ∀ (ls : PL) (H : PH), pget ls 0 = some (2, 590) → pget ls 2 = some (0, c) → WT 0 g H → frm [12, 83, 84, 85, 86, 87, 88, 89, 90, 91, 92, 93, 94, 95, 96] H0 H → BF pi H → (∀ q, 0 ≤ q → q < 864 → AK H q) → 0 < H 607 (c - 72) → H 610 c < 1000000 → sumP (H 607) 12 ≤ S → Tr G us kd_X12_layBest 9 (zget kd_X12_layBest 76) 76 ls [] H (fun r H' => r = none ∧ WT 0 g H' ∧ frm [12, 83, 84, 85, 86, 87, 88, 89, 90, 91, 92, 93, 94, 95, 96] H0 H') := by
  intro ls H  l0 l2 hW hF hB hA hc hc2 hS
  refine tr_lab (D := 8) (t := 76) vb_X12_layBest_76 _ ve_X12_layBest_76 ?_
  simp (maxDischargeDepth := 12) [vb_X12_layBest_76, wB, wI, k1, kI, kR, kL, k2, pget, parg, ppush, pcat, zw_lit, zw_m1, zw_m2, zw_m3, zNC_eq, zrow, pup_app, pget_pss, pget_psx, nlg_some, nlg_none, gv_590_28, gv_590_33, tg_12_28, tg_12_33, sh_590, l0, l2]
  repeat' (with_reducible (first | (refine And.intro ?_ ?_) | intro _))
  all_goals try (refine tr_lab (D := 8) (t := 85) vb_X12_layBest_85 _ ve_X12_layBest_85 ?_; simp (maxDischargeDepth := 12) [vb_X12_layBest_85, wB, wI, k1, kI, kR, kL, k2, pget, parg, ppush, pcat, zw_lit, zw_m1, zw_m2, zw_m3, zNC_eq, zrow, pup_app, pget_pss, pget_psx, nlg_some, nlg_none, gv_590_28, gv_590_33, tg_12_28, tg_12_33, sh_590, l0, l2])
  all_goals repeat' (with_reducible (first | (refine And.intro ?_ ?_) | intro _))
  all_goals try (refine tr_lab (D := 8) (t := 86) vb_X12_layBest_86 _ ve_X12_layBest_86 ?_; simp (maxDischargeDepth := 12) [vb_X12_layBest_86, wB, wI, k1, kI, kR, kL, k2, pget, parg, ppush, pcat, zw_lit, zw_m1, zw_m2, zw_m3, zNC_eq, zrow, pup_app, pget_pss, pget_psx, nlg_some, nlg_none, gv_590_28, gv_590_33, tg_12_28, tg_12_33, sh_590, l0, l2])
  all_goals repeat' (with_reducible (first | (refine And.intro ?_ ?_) | intro _))
  all_goals try (refine Ca_use (ca_X12_goAlong pi c H hW hB (by omega) (by omega) (by assumption) (by assumption)) (by omega) ?_; rintro _ _ ⟨rfl, hW2, hF2, hG2, h62, n, n1, n2, e7⟩; simp (maxDischargeDepth := 12) [wB, wI, k1, kI, kR, kL, k2, pget, parg, ppush, pcat, zw_lit, zw_m1, zw_m2, zw_m3, zNC_eq, zrow, pup_app, pget_pss, pget_psx, nlg_some, nlg_none, gv_590_28, gv_590_33, tg_12_28, tg_12_33, sh_590, l0, l2])
  all_goals repeat' (with_reducible (first | (refine And.intro ?_ ?_) | intro _))
  all_goals try (refine tr_lab (D := 8) (t := 96) vb_X12_layBest_96 _ ve_X12_layBest_96 ?_; simp (maxDischargeDepth := 12) [vb_X12_layBest_96, wB, wI, k1, kI, kR, kL, k2, pget, parg, ppush, pcat, zw_lit, zw_m1, zw_m2, zw_m3, zNC_eq, zrow, pup_app, pget_pss, pget_psx, nlg_some, nlg_none, gv_590_28, gv_590_33, tg_12_28, tg_12_33, sh_590, l0, l2])
  all_goals repeat' (with_reducible (first | (refine And.intro ?_ ?_) | intro _))
  all_goals try ((refine ihx _ _ (H 610) ?_ ?_ ?_ ?_ ?_ ?_) <;> (try simp (maxDischargeDepth := 12) [pget_pss, pget_psx, nlg_some, nlg_none, pget, pup_app, l0, l2]))
  all_goals (first | omega | assumption | (have := sumP_dn (by omega) (by omega) n1 n2 e7; omega) | (exact frm_trans hF (frm_sub rfl hF2)) | (exact best_next hB hA (fr609 hF2) (fr591 hF2) hG2 h62) | skip)

theorem sg_X12_layBest_76 {G : zG} {us : Nat} {g : Nat → Nat → Int} (H0 : PH)  (S : Int) (ihx : ∀ (ls : PL) (H : PH) (pi : Int → Int), sumP (H 607) 12 < S → pget ls 0 = some (2, 590) → pget ls 1 = some (0, 1) → WT 0 g H → frm [12, 83, 84, 85, 86, 87, 88, 89, 90, 91, 92, 93, 94, 95, 96] H0 H → PotH pi H → Tr G us kd_X12_layBest 9 (zget kd_X12_layBest 6) 6 ls [] H (fun r H' => r = none ∧ WT 0 g H' ∧ frm [12, 83, 84, 85, 86, 87, 88, 89, 90, 91, 92, 93, 94, 95, 96] H0 H')) (pi : Int → Int) (c : Int) (ls : PL) (H : PH) (l0 : pget ls 0 = some (2, 590)) (l2 : pget ls 2 = some (0, c)) (hW : WT 0 g H) (hF : frm [12, 83, 84, 85, 86, 87, 88, 89, 90, 91, 92, 93, 94, 95, 96] H0 H) (hB : BF pi H) (hA : ∀ q, 0 ≤ q → q < 864 → AK H q) (hc : c = -1 ∨ (72 ≤ c ∧ c < 84 ∧ 0 < H 607 (c - 72) ∧ H 610 c < 1000000)) (hS : sumP (H 607) 12 ≤ S) : Tr G us kd_X12_layBest 9 (zget kd_X12_layBest 76) 76 ls [] H (fun r H' => r = none ∧ WT 0 g H' ∧ frm [12, 83, 84, 85, 86, 87, 88, 89, 90, 91, 92, 93, 94, 95, 96] H0 H') := by
  rcases hc with rfl | ⟨c0, c1, c2, c3⟩
  · exact sg_X12_layBest_76a H0 ls H l0 l2 hW hF
  · exact sg_X12_layBest_76b H0 S ihx pi c c0 c1 ls H l0 l2 hW hF hB hA c2 c3 hS
set_option maxRecDepth 20000 in
set_option maxHeartbeats 4000000 in
theorem lp_X12_layBest_19 {G : zG} {us : Nat} {g : Nat → Nat → Int} (H0 : PH) (S : Int) (ihx : ∀ (ls : PL) (H : PH) (pi : Int → Int), sumP (H 607) 12 < S → pget ls 0 = some (2, 590) → pget ls 1 = some (0, 1) → WT 0 g H → frm [12, 83, 84, 85, 86, 87, 88, 89, 90, 91, 92, 93, 94, 95, 96] H0 H → PotH pi H → Tr G us kd_X12_layBest 9 (zget kd_X12_layBest 6) 6 ls [] H (fun r H' => r = none ∧ WT 0 g H' ∧ frm [12, 83, 84, 85, 86, 87, 88, 89, 90, 91, 92, 93, 94, 95, 96] H0 H')) (pi : Int → Int) (H : PH) (hW : WT 0 g H) (hF : frm [12, 83, 84, 85, 86, 87, 88, 89, 90, 91, 92, 93, 94, 95, 96] H0 H) (hB : BF pi H) (hA : ∀ q, 0 ≤ q → q < 864 → AK H q) (hS : sumP (H 607) 12 ≤ S)   : ∀ (n : Nat) (ls : PL) (c : Int) (j : Int), (84 - j).toNat < n → pget ls 0 = some (2, 590) → pget ls 2 = some (0, c) → pget ls 3 = some (0, j) → (c = -1 ∨ (72 ≤ c ∧ c < 84 ∧ 0 < H 607 (c - 72) ∧ H 610 c < 1000000)) → 72 ≤ j → j ≤ 84 → Tr G us kd_X12_layBest 9 (zget kd_X12_layBest 19) 19 ls [] H (fun r H' => r = none ∧ WT 0 g H' ∧ frm [12, 83, 84, 85, 86, 87, 88, 89, 90, 91, 92, 93, 94, 95, 96] H0 H') := by
  intro n
  induction n with
  | zero => intros; omega
  | succ n ih =>
    intro ls c j hn  l0 l2 l3 hc j0 j1
    have zj : zw (j - 72) = j - 72 := zw_lit (by omega) (by omega)
    have zj2 : zw (j + 1) = j + 1 := zw_lit (by omega) (by omega)
    refine tr_lab (D := 8) (t := 19) vb_X12_layBest_19 _ ve_X12_layBest_19 ?_
    simp (maxDischargeDepth := 12) [vb_X12_layBest_19, wB, wI, k1, kI, kR, kL, k2, pget, parg, ppush, pcat, zw_lit, zw_m1, zw_m2, zw_m3, zNC_eq, zrow, pup_app, pget_pss, pget_psx, nlg_some, nlg_none, gv_590_28, gv_590_33, tg_12_28, tg_12_33, sh_590, sh_607, sh_610, zj, zj2, l0, l2, l3]
    repeat' (with_reducible (first | (refine And.intro ?_ ?_) | intro _))
    all_goals try (refine tr_lab (D := 8) (t := 68) vb_X12_layBest_68 _ ve_X12_layBest_68 ?_; simp (maxDischargeDepth := 12) [vb_X12_layBest_68, wB, wI, k1, kI, kR, kL, k2, pget, parg, ppush, pcat, zw_lit, zw_m1, zw_m2, zw_m3, zNC_eq, zrow, pup_app, pget_pss, pget_psx, nlg_some, nlg_none, gv_590_28, gv_590_33, tg_12_28, tg_12_33, sh_590, sh_607, sh_610, zj, zj2, l0, l2, l3])
    all_goals repeat' (with_reducible (first | (refine And.intro ?_ ?_) | intro _))
    all_goals try (refine tr_lab (D := 8) (t := 70) vb_X12_layBest_70 _ ve_X12_layBest_70 ?_; simp (maxDischargeDepth := 12) [vb_X12_layBest_70, wB, wI, k1, kI, kR, kL, k2, pget, parg, ppush, pcat, zw_lit, zw_m1, zw_m2, zw_m3, zNC_eq, zrow, pup_app, pget_pss, pget_psx, nlg_some, nlg_none, gv_590_28, gv_590_33, tg_12_28, tg_12_33, sh_590, sh_607, sh_610, zj, zj2, l0, l2, l3])
    all_goals repeat' (with_reducible (first | (refine And.intro ?_ ?_) | intro _))
    all_goals try ((refine sg_X12_layBest_76 H0 S ihx pi c _ _ ?_ ?_ ?_ ?_ ?_ ?_ ?_ ?_) <;> (try simp (maxDischargeDepth := 12) [pget_pss, pget_psx, nlg_some, nlg_none, pget, pup_app, l0, l2]))
    all_goals try ((first | ((show Tr _ _ _ _ _ _ (pset (pset ls 2 false _) 3 false _) _ _ _); (refine ih _ j (j + 1) ?_ ?_ ?_ ?_ ?_ ?_ ?_) <;> (try simp (maxDischargeDepth := 12) [pget_pss, pget_psx, nlg_some, nlg_none, pget, pup_app, l0, l2, l3])) | ((refine ih _ c (j + 1) ?_ ?_ ?_ ?_ ?_ ?_ ?_) <;> (try simp (maxDischargeDepth := 12) [pget_pss, pget_psx, nlg_some, nlg_none, pget, pup_app, l0, l2, l3]))))
    all_goals try (refine ih _ c (j + 1) ?_ ?_ ?_ ?_ ?_ ?_ ?_)
    all_goals try simp (maxDischargeDepth := 12) [pget_pss, pget_psx, nlg_some, nlg_none, pget, pup_app, l0, l2, l3]
    all_goals (first | omega | assumption | (exact Or.inr ⟨by omega, by omega, by assumption, by assumption⟩) | skip)

set_option maxRecDepth 20000 in
set_option maxHeartbeats 4000000 in
theorem sg_X12_layBest_6 {G : zG} {us : Nat} {g : Nat → Nat → Int} (H0 : PH) (H : PH) (ihx : ∀ (ls : PL) (H1 : PH) (pi : Int → Int), sumP (H1 607) 12 < sumP (H 607) 12 → pget ls 0 = some (2, 590) → pget ls 1 = some (0, 1) → WT 0 g H1 → frm [12, 83, 84, 85, 86, 87, 88, 89, 90, 91, 92, 93, 94, 95, 96] H0 H1 → PotH pi H1 → Tr G us kd_X12_layBest 9 (zget kd_X12_layBest 6) 6 ls [] H1 (fun r H' => r = none ∧ WT 0 g H' ∧ frm [12, 83, 84, 85, 86, 87, 88, 89, 90, 91, 92, 93, 94, 95, 96] H0 H')) (pi : Int → Int)  : ∀ (ls : PL) , pget ls 0 = some (2, 590) → pget ls 1 = some (0, 1) → WT 0 g H → frm [12, 83, 84, 85, 86, 87, 88, 89, 90, 91, 92, 93, 94, 95, 96] H0 H → PotH pi H → Tr G us kd_X12_layBest 9 (zget kd_X12_layBest 6) 6 ls [] H (fun r H' => r = none ∧ WT 0 g H' ∧ frm [12, 83, 84, 85, 86, 87, 88, 89, 90, 91, 92, 93, 94, 95, 96] H0 H') := by
  intro ls   l0 l1 hW hF hp
  refine tr_lab (D := 8) (t := 6) vb_X12_layBest_6 _ ve_X12_layBest_6 ?_
  simp (maxDischargeDepth := 12) [vb_X12_layBest_6, wB, wI, k1, kI, kR, kL, k2, pget, parg, ppush, pcat, zw_lit, zw_m1, zw_m2, zw_m3, zNC_eq, zrow, pup_app, pget_pss, pget_psx, nlg_some, nlg_none, gv_590_28, gv_590_33, tg_12_28, tg_12_33, sh_590, l0, l1]
  repeat' (with_reducible (first | (refine And.intro ?_ ?_) | intro _))
  all_goals try (refine Ca_use (ca_X12_layWays pi H hW hp) (by omega) ?_; rintro _ _ ⟨rfl, hW2, hF2, hB2, hA2⟩; simp (maxDischargeDepth := 12) [wB, wI, k1, kI, kR, kL, k2, pget, parg, ppush, pcat, zw_lit, zw_m1, zw_m2, zw_m3, zNC_eq, zrow, pup_app, pget_pss, pget_psx, nlg_some, nlg_none, gv_590_28, gv_590_33, tg_12_28, tg_12_33, sh_590, l0, l1])
  all_goals repeat' (with_reducible (first | (refine And.intro ?_ ?_) | intro _))
  all_goals try ((refine lp_X12_layBest_19 H0 (sumP (H 607) 12) ihx pi _ hW2 (frm_trans hF (frm_sub rfl hF2)) hB2 hA2 (by rw [fr607 hF2]; omega) 13 _ (-1) 72 ?_ ?_ ?_ ?_ ?_ ?_ ?_) <;> (try simp (maxDischargeDepth := 12) [pget_pss, pget_psx, nlg_some, nlg_none, pget, pup_app, l0, l1]))
  all_goals (first | omega | assumption | exact Or.inl rfl | skip)

theorem best_6 {G : zG} {us : Nat} {g : Nat → Nat → Int} (H0 : PH) : ∀ (n : Nat) (ls : PL) (H : PH) (pi : Int → Int), sumP (H 607) 12 < n → pget ls 0 = some (2, 590) → pget ls 1 = some (0, 1) → WT 0 g H → frm [12, 83, 84, 85, 86, 87, 88, 89, 90, 91, 92, 93, 94, 95, 96] H0 H → PotH pi H → Tr G us kd_X12_layBest 9 (zget kd_X12_layBest 6) 6 ls [] H (fun r H' => r = none ∧ WT 0 g H' ∧ frm [12, 83, 84, 85, 86, 87, 88, 89, 90, 91, 92, 93, 94, 95, 96] H0 H') := by
  intro n
  induction n with
  | zero =>
    intro ls H pi hn l0 l1 hW hF hp
    exact (Int.lt_irrefl 0 (Int.lt_of_le_of_lt (sumP_nonneg (W := H 607) 12) hn)).elim
  | succ n ih =>
    intro ls H pi hn l0 l1 hW hF hp
    exact sg_X12_layBest_6 H0 H (fun ls H1 pi h => ih ls H1 pi (Int.lt_of_lt_of_le h (Int.le_of_lt_add_one hn))) pi ls l0 l1 hW hF hp
theorem best_6' {G : zG} {us : Nat} {g : Nat → Nat → Int} (H0 : PH) (ls : PL) (H : PH) (pi : Int → Int) (l0 : pget ls 0 = some (2, 590)) (l1 : pget ls 1 = some (0, 1)) (hW : WT 0 g H) (hF : frm [12, 83, 84, 85, 86, 87, 88, 89, 90, 91, 92, 93, 94, 95, 96] H0 H) (hp : PotH pi H) : Tr G us kd_X12_layBest 9 (zget kd_X12_layBest 6) 6 ls [] H (fun r H' => r = none ∧ WT 0 g H' ∧ frm [12, 83, 84, 85, 86, 87, 88, 89, 90, 91, 92, 93, 94, 95, 96] H0 H') :=
  best_6 H0 ((sumP (H 607) 12).toNat + 1) ls H pi (by generalize sumP (H 607) 12 = x; omega) l0 l1 hW hF hp
set_option maxRecDepth 20000 in
set_option maxHeartbeats 4000000 in
theorem ca_X12_layBest {G : zG} {us : Nat} {g : Nat → Nat → Int} (hg : GOK g) (H : PH) (hW : WT 0 g H) : Ca G us 9 224 [(2, 590)] H (fun r H' => r = none ∧ WT 0 g H' ∧ frm [12, 83, 84, 85, 86, 87, 88, 89, 90, 91, 92, 93, 94, 95, 96] H H') := by
  refine ⟨_, _, _, _, _, _, vm_X12_layBest, by simp [pcat], ?_⟩
  refine tr_lab (D := 8) (t := 0) vb_X12_layBest_0 _ ve_X12_layBest_0 ?_
  simp (maxDischargeDepth := 12) [vb_X12_layBest_0, wB, wI, k1, kI, kR, kL, k2, pget, parg, ppush, pcat, zw_lit, zw_m1, zw_m2, zw_m3, zNC_eq, zrow, pup_app, pget_pss, pget_psx, nlg_some, nlg_none, gv_590_28, gv_590_33, tg_12_28, tg_12_33, sh_590]
  repeat' (with_reducible (first | (refine And.intro ?_ ?_) | intro _))
  all_goals try (refine Ca_use (ca_X12_layShort hg H hW) (by omega) ?_; rintro _ _ ⟨rfl, hW2, hF2, hz2⟩; simp (maxDischargeDepth := 12) [wB, wI, k1, kI, kR, kL, k2, pget, parg, ppush, pcat, zw_lit, zw_m1, zw_m2, zw_m3, zNC_eq, zrow, pup_app, pget_pss, pget_psx, nlg_some, nlg_none, gv_590_28, gv_590_33, tg_12_28, tg_12_33, sh_590])
  all_goals repeat' (with_reducible (first | (refine And.intro ?_ ?_) | intro _))
  all_goals try ((refine best_6' H _ _ (fun _ => 0) ?_ ?_ ?_ ?_ ?_) <;> (try simp (maxDischargeDepth := 12) [pget_pss, pget_psx, nlg_some, nlg_none, pget, pup_app]))
  all_goals (first | omega | assumption | (exact frm_sub rfl hF2) | (exact Pot_0 hW2 hz2) | skip)

