theorem hin_row {lv : Nat} {g : Nat → Nat → Int} {H : PH} (hW : WT lv g H) {k : Int} (h0 : 0 ≤ k) (h1 : k < 1124) : -2147483648 ≤ H 591 k ∧ H 591 k ≤ 2147483647 := by
  have q := (WT_row hW h0 h1).1
  have hk := allT_c k.toNat (by omega)
  have rd : ∀ {lo hi : Int}, allT k.toNat = (0, lo, hi, 1) → lo ≤ H 591 k ∧ H 591 k ≤ hi := fun e => by
    rw [e] at q
    exact ⟨(q.2.1 rfl).1, (q.2.1 rfl).2.1⟩
  rcases hk with e | ⟨_, e⟩ | ⟨_, e⟩ | ⟨_, e⟩ | ⟨_, e⟩ | ⟨_, _, c⟩ | ⟨_, _, e⟩
  · exact rd e
  · have := rd e; omega
  · have := rd e; omega
  · have := rd e; omega
  · have := rd e; omega
  · rcases c with ⟨_, e⟩ | ⟨_, e⟩ | ⟨_, e⟩ | ⟨_, e⟩ <;> (have := rd e; omega)
  · have := rd e; omega
set_option maxRecDepth 20000 in
set_option maxHeartbeats 4000000 in
theorem lp_X12_agree_22 {G : zG} {us : Nat} {g : Nat → Nat → Int} (hg : GOK g) (H0 : PH) (a b c : Int)  (za : -2147483648 ≤ a ∧ a ≤ 2147483647) (zb : -2147483648 ≤ b ∧ b ≤ 2147483647) (zc : -2147483648 ≤ c ∧ c ≤ 2147483647) : ∀ (n : Nat) (ls : PL) (H : PH) (d : Int) (k : Int), (64 - k).toNat < n → pnl ls → pget ls 0 = some (2, 590) → pget ls 1 = some (0, a) → pget ls 2 = some (0, b) → pget ls 3 = some (0, c) → pget ls 4 = some (0, d) → pget ls 5 = some (0, k) → WT 0 g H → frm [83] H0 H → 0 ≤ k → k ≤ 64 → 0 ≤ d → d ≤ 34 → ldp (g 591) k.toNat = d → Tr G us kd_X12_agree 2 (zget kd_X12_agree 22) 22 ls [] H (fun r H' => WT 0 g H' ∧ frm [83] H0 H' ∧ ∃ x, r = some (0, x) ∧ -2147483648 ≤ x ∧ x ≤ 2147483647) := by
  intro n
  induction n with
  | zero => intros; omega
  | succ n ih =>
    intro ls H d k hn hnl l0 l1 l2 l3 l4 l5 hW hF hk0 hk1 hn1 hn2 hn0
    have e13 : zw (d + 4294967295) = d - 1 := by unfold zw; omega
    have e14 : zw (d - 1 - 1) = d - 2 := by unfold zw; omega
    have e15 : zw (d - 1) = d - 1 := by unfold zw; omega
    have e12 : zw (12 + k) = 12 + k := zw_lit (by omega) (by omega)
    have hlv : (0 : Nat) ≤ 1 := by omega
    obtain ⟨w0, w1, w2⟩ := hg
    have q11 : H 591 11 = g 591 11 := (WT_row hW (by omega) (by omega)).2 (fz_law hlv (by omega) (by omega))
    have qk : k < H 591 11 → H 591 (12 + k) = g 591 (12 + k.toNat) := fun h => by
      have e : (12 + k).toNat = 12 + k.toNat := by omega
      have := (WT_row hW (k := 12 + k) (by omega) (by omega)).2 (fz_law hlv (by omega) (by omega))
      rw [e] at this
      exact this
    have qi : k < H 591 11 → -2147483648 ≤ H 591 (12 + k) ∧ H 591 (12 + k) ≤ 2147483647 := fun h => by
      have := hin_row hW (k := 12 + k) (by omega) (by omega)
      exact this
    have qd : k < H 591 11 → (H 591 (12 + k) < 11000 → d ≤ 33 ∧ ldp (g 591) (k + 1).toNat = d + 1) ∧ (¬ H 591 (12 + k) < 11000 → 2 ≤ d ∧ ldp (g 591) (k + 1).toNat = d - 1) := fun h => by
      have e2 : (k + 1).toNat = k.toNat + 1 := by omega
      have h3 := w2 k.toNat (by omega)
      rw [qk h, e2]
      refine ⟨fun q => ⟨by have := h3.1 q; omega, ?_⟩, fun q => ⟨by have := h3.2 q; omega, ?_⟩⟩
      · show (if g 591 (12 + k.toNat) < 11000 then ldp (g 591) k.toNat + 1 else ldp (g 591) k.toNat - 1) = d + 1
        rw [if_pos q, hn0]
      · show (if g 591 (12 + k.toNat) < 11000 then ldp (g 591) k.toNat + 1 else ldp (g 591) k.toNat - 1) = d - 1
        rw [if_neg q, hn0]
    have hp : ∀ i : Int, 0 ≤ i → i < 34 → zIn (H 598 i) := fun i h1 h2 => by
      have := ra_598 hW h1 h2
      exact ⟨by omega, by omega⟩
    refine tr_lab (D := 1) (t := 22) vb_X12_agree_22 _ ve_X12_agree_22 ?_
    simp (maxDischargeDepth := 12) [vb_X12_agree_22, wB, wI, k1, kI, kR, kL, k2, pget, pget_pset, pnl_pset, pnl_cons, pnl_nil, parg, ppush, pcat, zw_lit, zw_m1, zw_m2, zw_m3, zNC_eq, zrow, pup_app, gv_590_0, gv_590_15, tg_12_0, tg_12_15, sh_590, sh_591, sh_598, e12, e13, e14, e15, hnl, l0, l1, l2, l3, l4, l5]
    repeat' (with_reducible (first | (refine And.intro ?_ ?_) | intro _))
    all_goals try (refine tr_lab (D := 1) (t := 73) vb_X12_agree_73 _ ve_X12_agree_73 ?_; simp (maxDischargeDepth := 12) [vb_X12_agree_73, wB, wI, k1, kI, kR, kL, k2, pget, pget_pset, pnl_pset, pnl_cons, pnl_nil, parg, ppush, pcat, zw_lit, zw_m1, zw_m2, zw_m3, zNC_eq, zrow, pup_app, gv_590_0, gv_590_15, tg_12_0, tg_12_15, sh_590, sh_591, sh_598, e12, e13, e14, e15, hnl, l0, l1, l2, l3, l4, l5])
    all_goals repeat' (with_reducible (first | (refine And.intro ?_ ?_) | intro _))
    all_goals try (refine tr_lab (D := 1) (t := 85) vb_X12_agree_85 _ ve_X12_agree_85 ?_; simp (maxDischargeDepth := 12) [vb_X12_agree_85, wB, wI, k1, kI, kR, kL, k2, pget, pget_pset, pnl_pset, pnl_cons, pnl_nil, parg, ppush, pcat, zw_lit, zw_m1, zw_m2, zw_m3, zNC_eq, zrow, pup_app, gv_590_0, gv_590_15, tg_12_0, tg_12_15, sh_590, sh_591, sh_598, e12, e13, e14, e15, hnl, l0, l1, l2, l3, l4, l5])
    all_goals repeat' (with_reducible (first | (refine And.intro ?_ ?_) | intro _))
    all_goals try (refine tr_lab (D := 1) (t := 97) vb_X12_agree_97 _ ve_X12_agree_97 ?_; simp (maxDischargeDepth := 12) [vb_X12_agree_97, wB, wI, k1, kI, kR, kL, k2, pget, pget_pset, pnl_pset, pnl_cons, pnl_nil, parg, ppush, pcat, zw_lit, zw_m1, zw_m2, zw_m3, zNC_eq, zrow, pup_app, gv_590_0, gv_590_15, tg_12_0, tg_12_15, sh_590, sh_591, sh_598, e12, e13, e14, e15, hnl, l0, l1, l2, l3, l4, l5])
    all_goals repeat' (with_reducible (first | (refine And.intro ?_ ?_) | intro _))
    all_goals try (refine tr_lab (D := 1) (t := 98) vb_X12_agree_98 _ ve_X12_agree_98 ?_; simp (maxDischargeDepth := 12) [vb_X12_agree_98, wB, wI, k1, kI, kR, kL, k2, pget, pget_pset, pnl_pset, pnl_cons, pnl_nil, parg, ppush, pcat, zw_lit, zw_m1, zw_m2, zw_m3, zNC_eq, zrow, pup_app, gv_590_0, gv_590_15, tg_12_0, tg_12_15, sh_590, sh_591, sh_598, e12, e13, e14, e15, hnl, l0, l1, l2, l3, l4, l5])
    all_goals repeat' (with_reducible (first | (refine And.intro ?_ ?_) | intro _))
    all_goals try (refine tr_lab (D := 1) (t := 105) vb_X12_agree_105 _ ve_X12_agree_105 ?_; simp (maxDischargeDepth := 12) [vb_X12_agree_105, wB, wI, k1, kI, kR, kL, k2, pget, pget_pset, pnl_pset, pnl_cons, pnl_nil, parg, ppush, pcat, zw_lit, zw_m1, zw_m2, zw_m3, zNC_eq, zrow, pup_app, gv_590_0, gv_590_15, tg_12_0, tg_12_15, sh_590, sh_591, sh_598, e12, e13, e14, e15, hnl, l0, l1, l2, l3, l4, l5])
    all_goals repeat' (with_reducible (first | (refine And.intro ?_ ?_) | intro _))
    all_goals try (refine Ca_use (ca_X12_joined _ _ _ _ (by first | (exact hp _ (by omega) (by omega)) | ((simp (disch := omega) only [zw_lit]); exact hp _ (by omega) (by omega))) (by first | (exact hp _ (by omega) (by omega)) | ((simp (disch := omega) only [zw_lit]); exact hp _ (by omega) (by omega)))) (by omega) ?_; rintro _ _ ⟨rfl, x, rfl, hx⟩; simp (maxDischargeDepth := 12) [wB, wI, k1, kI, kR, kL, k2, pget, pget_pset, pnl_pset, pnl_cons, pnl_nil, parg, ppush, pcat, zw_lit, zw_m1, zw_m2, zw_m3, zNC_eq, zrow, pup_app, gv_590_0, gv_590_15, tg_12_0, tg_12_15, sh_590, sh_591, sh_598, e12, e13, e14, e15, hnl, l0, l1, l2, l3, l4, l5])
    all_goals repeat' (with_reducible (first | (refine And.intro ?_ ?_) | intro _))
    all_goals try (refine tr_lab (D := 1) (t := 142) vb_X12_agree_142 _ ve_X12_agree_142 ?_; simp (maxDischargeDepth := 12) [vb_X12_agree_142, wB, wI, k1, kI, kR, kL, k2, pget, pget_pset, pnl_pset, pnl_cons, pnl_nil, parg, ppush, pcat, zw_lit, zw_m1, zw_m2, zw_m3, zNC_eq, zrow, pup_app, gv_590_0, gv_590_15, tg_12_0, tg_12_15, sh_590, sh_591, sh_598, e12, e13, e14, e15, hnl, l0, l1, l2, l3, l4, l5])
    all_goals repeat' (with_reducible (first | (refine And.intro ?_ ?_) | intro _))
    all_goals try (refine tr_lab (D := 1) (t := 148) vb_X12_agree_148 _ ve_X12_agree_148 ?_; simp (maxDischargeDepth := 12) [vb_X12_agree_148, wB, wI, k1, kI, kR, kL, k2, pget, pget_pset, pnl_pset, pnl_cons, pnl_nil, parg, ppush, pcat, zw_lit, zw_m1, zw_m2, zw_m3, zNC_eq, zrow, pup_app, gv_590_0, gv_590_15, tg_12_0, tg_12_15, sh_590, sh_591, sh_598, e12, e13, e14, e15, hnl, l0, l1, l2, l3, l4, l5])
    all_goals repeat' (with_reducible (first | (refine And.intro ?_ ?_) | intro _))
    all_goals try (refine Ca_use (ca_X12_lesser _ _ _) (by omega) ?_; rintro _ _ ⟨rfl, rfl⟩; simp (maxDischargeDepth := 12) [wB, wI, k1, kI, kR, kL, k2, pget, pget_pset, pnl_pset, pnl_cons, pnl_nil, parg, ppush, pcat, zw_lit, zw_m1, zw_m2, zw_m3, zNC_eq, zrow, pup_app, gv_590_0, gv_590_15, tg_12_0, tg_12_15, sh_590, sh_591, sh_598, e12, e13, e14, e15, hnl, l0, l1, l2, l3, l4, l5])
    all_goals repeat' (with_reducible (first | (refine And.intro ?_ ?_) | intro _))
    all_goals try (refine Ca_use (ca_X12_most _ _ _) (by omega) ?_; rintro _ _ ⟨rfl, rfl⟩; simp (maxDischargeDepth := 12) [wB, wI, k1, kI, kR, kL, k2, pget, pget_pset, pnl_pset, pnl_cons, pnl_nil, parg, ppush, pcat, zw_lit, zw_m1, zw_m2, zw_m3, zNC_eq, zrow, pup_app, gv_590_0, gv_590_15, tg_12_0, tg_12_15, sh_590, sh_591, sh_598, e12, e13, e14, e15, hnl, l0, l1, l2, l3, l4, l5])
    all_goals repeat' (with_reducible (first | (refine And.intro ?_ ?_) | intro _))
    all_goals try (refine ih _ _ (if H 591 (12 + k) < 11000 then d + 1 else d - 1) (k + 1) ?_ ?_ ?_ ?_ ?_ ?_ ?_ ?_ ?_ ?_ ?_ ?_ ?_ ?_ ?_)
    all_goals try simp (maxDischargeDepth := 12) [pget_pset, pnl_pset, pnl_cons, pnl_nil, pget, hnl, pup_app, l0, l1, l2, l3, l4, l5]
    all_goals (first | omega | assumption | exact zw_in _ | ((repeat (first | assumption | exact frm_refl _ _ | (refine wa_598 ?_ (by (first | omega | exact zw_lo _ | exact zw_hi _ | ((simp (disch := omega) only [zw_lit, pup_app]) <;> omega) | ((simp (disch := omega) [zw_lit, pup_app]) <;> omega) | (simp only [zw]; omega))) (by (first | omega | exact zw_lo _ | exact zw_hi _ | ((simp (disch := omega) only [zw_lit, pup_app]) <;> omega) | ((simp (disch := omega) [zw_lit, pup_app]) <;> omega) | (simp only [zw]; omega))) (by (first | omega | exact zw_lo _ | exact zw_hi _ | ((simp (disch := omega) only [zw_lit, pup_app]) <;> omega) | ((simp (disch := omega) [zw_lit, pup_app]) <;> omega) | (simp only [zw]; omega)))) | (refine fa_598 ?_ rfl))); done) | (first | omega | exact zw_lo _ | exact zw_hi _ | ((simp (disch := omega) only [zw_lit, pup_app]) <;> omega) | ((simp (disch := omega) [zw_lit, pup_app]) <;> omega) | (simp only [zw]; omega)) | (exact wa_598 (by assumption) (by omega) hx.1 (by have := hx.2; omega)) | (split <;> omega) | (rw [if_pos (by omega)]; (first | omega | exact zw_lo _ | exact zw_hi _ | ((simp (disch := omega) only [zw_lit, pup_app]) <;> omega) | ((simp (disch := omega) [zw_lit, pup_app]) <;> omega) | (simp only [zw]; omega))) | (rw [if_neg (by omega)]; (first | omega | exact zw_lo _ | exact zw_hi _ | ((simp (disch := omega) only [zw_lit, pup_app]) <;> omega) | ((simp (disch := omega) [zw_lit, pup_app]) <;> omega) | (simp only [zw]; omega))) | skip)

set_option maxRecDepth 20000 in
set_option maxHeartbeats 4000000 in
theorem ca_X12_agree {G : zG} {us : Nat} {g : Nat → Nat → Int} (hg : GOK g) (a b c : Int) (H : PH) (za : -2147483648 ≤ a ∧ a ≤ 2147483647) (zb : -2147483648 ≤ b ∧ b ≤ 2147483647) (zc : -2147483648 ≤ c ∧ c ≤ 2147483647) (hW : WT 0 g H) : Ca G us 2 193 [(2, 590), (0, a), (0, b), (0, c)] H (fun r H' => WT 0 g H' ∧ frm [83] H H' ∧ ∃ x, r = some (0, x) ∧ -2147483648 ≤ x ∧ x ≤ 2147483647) := by
  refine ⟨_, _, _, _, _, _, vm_X12_agree, by simp [pcat], ?_⟩
  refine tr_lab (D := 1) (t := 0) vb_X12_agree_0 _ ve_X12_agree_0 ?_
  simp (maxDischargeDepth := 12) [vb_X12_agree_0, wB, wI, k1, kI, kR, kL, k2, pget, pget_pset, pnl_pset, pnl_cons, pnl_nil, parg, ppush, pcat, zw_lit, zw_m1, zw_m2, zw_m3, zNC_eq, zrow, pup_app, gv_590_0, gv_590_15, tg_12_0, tg_12_15, sh_590, sh_591]
  repeat' (with_reducible (first | (refine And.intro ?_ ?_) | intro _))
  all_goals try (refine Ca_use (ca_X12_lesser _ _ _) (by omega) ?_; rintro _ _ ⟨rfl, rfl⟩; simp (maxDischargeDepth := 12) [wB, wI, k1, kI, kR, kL, k2, pget, pget_pset, pnl_pset, pnl_cons, pnl_nil, parg, ppush, pcat, zw_lit, zw_m1, zw_m2, zw_m3, zNC_eq, zrow, pup_app, gv_590_0, gv_590_15, tg_12_0, tg_12_15, sh_590, sh_591])
  all_goals repeat' (with_reducible (first | (refine And.intro ?_ ?_) | intro _))
  all_goals try (refine tr_lab (D := 1) (t := 16) vb_X12_agree_16 _ ve_X12_agree_16 ?_; simp (maxDischargeDepth := 12) [vb_X12_agree_16, wB, wI, k1, kI, kR, kL, k2, pget, pget_pset, pnl_pset, pnl_cons, pnl_nil, parg, ppush, pcat, zw_lit, zw_m1, zw_m2, zw_m3, zNC_eq, zrow, pup_app, gv_590_0, gv_590_15, tg_12_0, tg_12_15, sh_590, sh_591])
  all_goals repeat' (with_reducible (first | (refine And.intro ?_ ?_) | intro _))
  all_goals try ((refine lp_X12_agree_22 hg H a b c za zb zc 65 _ _ 0 0 ?_ ?_ ?_ ?_ ?_ ?_ ?_ ?_ ?_ ?_ ?_ ?_ ?_ ?_ ?_) <;> (try simp (maxDischargeDepth := 12) [pget_pset, pnl_pset, pnl_cons, pnl_nil, pget, pup_app, *]))
  all_goals (first | omega | exact frm_refl _ _ | assumption | rfl)

