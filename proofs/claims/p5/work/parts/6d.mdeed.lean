def cq_X12_deliver : aC := (256, 11, [(2, 0, 0, 12), (0, -2147483648, 2147483647, 1), (0, -2147483648, 2147483647, 1)], some (0, -2147483648, 2147483647, 1), [], 0, [83, 84, 85, 86, 87, 88, 89, 90, 91, 92, 93, 94, 18012, 19012, 20012, 27012, 32012, 33012], [], [], [])
def tq_X12_deliver : List aL := [(0, ([(0, ((2, 0, 0, 12), (0, 0, 0), (0, 0), [])), (1, ((0, -2147483648, 2147483647, 1), (0, 0, 0), (0, 0), [])), (2, ((0, -2147483648, 2147483647, 1), (0, 0, 0), (0, 0), []))], [], []), 2, []),
  (22, ([(0, ((2, 0, 0, 12), (0, 0, 0), (0, 0), [])), (1, ((0, -2147483648, 2147483647, 1), (0, 0, 0), (0, 0), [])), (2, ((0, -2147483648, 2147483647, 1), (0, 0, 0), (0, 0), []))], [], []), 0, [])]
def aq_X12_deliver : List aL := [(24, ([(0, ((2, 0, 0, 12), (0, 0, 0), (0, 0), [])), (1, ((0, 0, 11, 1), (0, 0, 0), (0, 0), [])), (2, ((0, 1, 2147483647, 1), (0, 0, 0), (0, 0), []))], [], []), 1, [])]
def bq_X12_deliver : List aB := [(0, vb_X12_deliver_0, some 22), (22, vb_X12_deliver_22, some 24)]
def zq_X12_deliver : List (Nat × aC) := [(2, cc_X12_isBill), (16, cc_X12_shedOf)]
theorem kq_X12_deliver : amchkA (some (0, -1, -1, 0)) tq_X12_deliver aq_X12_deliver bq_X12_deliver zq_X12_deliver cq_X12_deliver = true := by decide +kernel
theorem bk_X12_deliver : blOK kd_X12_deliver bq_X12_deliver := ⟨ve_X12_deliver_0, ve_X12_deliver_22, trivial⟩
theorem zk_X12_deliver : csOK zq_X12_deliver := ⟨ct_X12_isBill, ct_X12_shedOf, trivial⟩

theorem ca_deedV {G : zG} {us : Nat} {g : Nat → Nat → Int} (H : PH) (hW : WT 2 g H) (hM : IM H) : Ca G us 1 158 [(2, 590)] H (fun r H' => r = none ∧ WT 2 g H' ∧ (∀ X : PH, frm [32, 33, 83, 84, 85, 86, 87, 88, 89, 90, 91, 92, 93, 94, 3012, 18012, 19012, 20012, 27012, 32012, 33012] X H → frm [32, 33, 83, 84, 85, 86, 87, 88, 89, 90, 91, 92, 93, 94, 3012, 18012, 19012, 20012, 27012, 32012, 33012] X H') ∧ IM H' ∧ H' 591 = H 591) :=
  Ca_mono (Nat.le_refl _) (fun r H' q => ⟨q.1, q.2.1, fun X hX => frm_trans hX (frm_sub rfl q.2.2.1), q.2.2.2, f591 q.2.2.1⟩) (ca_X12_deed H hW hM)

set_option maxRecDepth 20000 in
set_option maxHeartbeats 4000000 in
theorem sg_X12_deliver_24 {G : zG} {us : Nat} {g : Nat → Nat → Int} (H0 : PH) (b n : Int) (b0 : 0 ≤ b) (b1 : b ≤ 11)  : ∀ (ls : PL) (H : PH), pget ls 0 = some (2, 590) → pget ls 1 = some (0, b) → pget ls 2 = some (0, n) → WT 2 g H → IM H → frm [32, 33, 83, 84, 85, 86, 87, 88, 89, 90, 91, 92, 93, 94, 3012, 18012, 19012, 20012, 27012, 32012, 33012] H0 H → Tr G us kd_X12_deliver 11 (zget kd_X12_deliver 24) 24 ls [] H (fun r H' => (∃ x, r = some (0, x)) ∧ WT 2 g H' ∧ frm [32, 33, 83, 84, 85, 86, 87, 88, 89, 90, 91, 92, 93, 94, 3012, 18012, 19012, 20012, 27012, 32012, 33012] H0 H' ∧ IM H') := by
  intro ls H  l0 l1 l2 hW hM hF
  have z1 : zw (92 + 26 * b + 12) = 92 + 26 * b + 12 := zw_lit (by omega) (by omega)
  refine tr_lab (D := 10) (t := 24) vb_X12_deliver_24 _ ve_X12_deliver_24 ?_
  simp (maxDischargeDepth := 12) [vb_X12_deliver_24, wB, wI, k1, kI, kR, kL, k2, pget, parg, ppush, pcat, zw_lit, zw_m1, zw_m2, zw_m3, zNC_eq, zrow, pup_app, pget_pss, pget_psx, nlg_some, nlg_none, gv_590_0, tg_12_0, sh_590, sh_591, z1, l0, l1, l2]
  repeat' (with_reducible (first | (refine And.intro ?_ ?_) | intro _))
  all_goals try (refine Ca_use (ca_deedV _ (by assumption) (by assumption)) (by omega) ?_; rintro _ _ ⟨rfl, hW2, hF2, hM2, e2⟩; simp (maxDischargeDepth := 12) [wB, wI, k1, kI, kR, kL, k2, pget, parg, ppush, pcat, zw_lit, zw_m1, zw_m2, zw_m3, zNC_eq, zrow, pup_app, pget_pss, pget_psx, nlg_some, nlg_none, gv_590_0, tg_12_0, sh_590, sh_591, z1, l0, l1, l2])
  all_goals repeat' (with_reducible (first | (refine And.intro ?_ ?_) | intro _))
  all_goals try (refine Ca_use (ca_X12_billAt _ _ (by omega) (by omega)) (by omega) ?_; rintro _ _ ⟨rfl, rfl⟩; simp (maxDischargeDepth := 12) [wB, wI, k1, kI, kR, kL, k2, pget, parg, ppush, pcat, zw_lit, zw_m1, zw_m2, zw_m3, zNC_eq, zrow, pup_app, pget_pss, pget_psx, nlg_some, nlg_none, gv_590_0, tg_12_0, sh_590, sh_591, z1, l0, l1, l2])
  all_goals repeat' (with_reducible (first | (refine And.intro ?_ ?_) | intro _))
  all_goals try (refine Ca_use (ca_X12_charge (g := g) _) (by omega) ?_; rintro _ _ ⟨rfl, x, rfl⟩; simp (maxDischargeDepth := 12) [wB, wI, k1, kI, kR, kL, k2, pget, parg, ppush, pcat, zw_lit, zw_m1, zw_m2, zw_m3, zNC_eq, zrow, pup_app, pget_pss, pget_psx, nlg_some, nlg_none, gv_590_0, tg_12_0, sh_590, sh_591, z1, l0, l1, l2])
  all_goals repeat' (with_reducible (first | (refine And.intro ?_ ?_) | intro _))
  all_goals try (refine Ca_use (ca_X12_charge (g := g) _) (by omega) ?_; rintro _ _ ⟨rfl, x, rfl⟩; simp (maxDischargeDepth := 12) [wB, wI, k1, kI, kR, kL, k2, pget, parg, ppush, pcat, zw_lit, zw_m1, zw_m2, zw_m3, zNC_eq, zrow, pup_app, pget_pss, pget_psx, nlg_some, nlg_none, gv_590_0, tg_12_0, sh_590, sh_591, z1, l0, l1, l2])
  all_goals repeat' (with_reducible (first | (refine And.intro ?_ ?_) | intro _))
  all_goals (first | omega | assumption | exact frm_refl _ _ | (exact ⟨_, rfl⟩) | ((repeat (first | assumption | exact frm_refl _ _ | (exact ⟨_, rfl⟩) | (refine WT_wr ?_ (by omega) (by omega) (by first | assumption | (exact av_top rfl (by first | omega | exact zw_lo _ | exact zw_hi _) (by first | omega | exact zw_lo _ | exact zw_hi _)) | (exact av_bill (by omega) (by omega) (by omega) (by omega) (by omega) (by first | omega | exact zw_lo _ | exact zw_hi _) (by first | omega | exact zw_lo _ | exact zw_hi _)) | (exact av_rem (by omega) (by omega) (by omega) (by omega)) | (exact vin (by omega) (by omega)))) | (refine fa_591 ?_ rfl) | (refine hF2 _ ?_) | (refine IM_wr ?_ (by omega)))); done) | skip)

theorem ca_X12_deliver {G : zG} {us : Nat} {g : Nat → Nat → Int} (b n : Int) (H : PH) (hb : -2147483648 ≤ b ∧ b ≤ 2147483647) (hn : -2147483648 ≤ n ∧ n ≤ 2147483647) (hW : WT 2 g H) (hM : IM H) : Ca G us 11 256 [(2, 590), (0, b), (0, n)] H (fun r H' => (∃ x, r = some (0, x)) ∧ WT 2 g H' ∧ frm [32, 33, 83, 84, 85, 86, 87, 88, 89, 90, 91, 92, 93, 94, 3012, 18012, 19012, 20012, 27012, 32012, 33012] H H' ∧ IM H' ∧ H' 590 4 = H 590 4) := by
  refine am_okQ (c := cq_X12_deliver) vm_X12_deliver bk_X12_deliver (by decide) kq_X12_deliver zk_X12_deliver (as := [((2 : Nat), (590 : Int)), (0, b), (0, n)]) (GOK_gH hM) (WT_self hW) (show aargs [(2, 0, 0, 12), (0, -2147483648, 2147483647, 1), (0, -2147483648, 2147483647, 1)] [(2, 590), (0, b), (0, n)] from ⟨sref 590 (by decide) rfl, vin hb.1 hb.2, vin hn.1 hn.2, trivial⟩) (fun f hf => by cases hf) ?_ ?_
  · intro r H2 h1 h2 h3 h4
    obtain ⟨x, rfl, x0, x1⟩ := rok_int h1
    obtain ⟨s1, s2⟩ := SM_frz h2
    exact ⟨⟨x, rfl⟩, WT_two h2, frm_sub rfl h3, IM_same hW s1 hM, s2⟩
  · intro l hl ls1 ls st H' hs
    rw [List.mem_singleton.mp hl] at hs ⊢
    have est := mem_sok0 hs rfl
    subst est
    obtain ⟨⟨h1, h2, h3⟩, hW', hF'⟩ := hs
    obtain ⟨s1, s2⟩ := SM_frz hW'
    have l0 := get_ref h1 (v := 0) (t := 12) (List.mem_cons_self) 590 (by decide +kernel)
    obtain ⟨b', l1, o0, o1⟩ := get_int h1 (v := 1) (List.mem_cons_of_mem _ List.mem_cons_self)
    obtain ⟨n', l2, _, _⟩ := get_int h1 (v := 2) (List.mem_cons_of_mem _ (List.mem_cons_of_mem _ List.mem_cons_self))
    have hT := sg_X12_deliver_24 (G := G) (us := us) (g := g) H' b' n' o0 o1 ls H' l0 l1 l2 (WT_two hW') (IM_same hW s1 hM) (frm_refl _ _)
    refine Tr_mono (by decide) (fun r H2 q => ?_) hT
    obtain ⟨q1, q2, q3, q4⟩ := q
    refine ⟨q1, q2, frm_trans (frm_sub rfl hF') q3, q4, ?_⟩
    have e4 : gv H2 590 4 = gv H' 590 4 := q3 590 4 (by decide) rfl
    exact e4.trans s2

theorem av_line {lv : Nat} {g : Nat → Nat → Int} {H : PH} {i : Int} (hW : WT lv g H) (i0 : 404 ≤ i) (i1 : i < 1112) : aval (allT i.toNat) ((allT i.toNat).1, H 591 (i + 12)) := by
  have h := (WT_row hW (k := i + 12) (by omega) (by omega)).1
  rw [show (i + 12).toNat = i.toNat + 12 by omega, aT_line i.toNat (by omega) (by omega)] at h
  exact h
theorem u591 {H : PH} {i v j : Int} (h : j ≠ i) : pup H 591 i v 591 j = H 591 j := if_neg (fun q => h q.2)

set_option maxRecDepth 20000 in
set_option maxHeartbeats 4000000 in
theorem lp_X12_strike_19 {G : zG} {us : Nat} {g : Nat → Nat → Int} (H0 : PH) (c : Int) (c0 : 1 ≤ c) (c1 : c ≤ 60)   : ∀ (n : Nat) (ls : PL) (H : PH) (i : Int), (1112 - i).toNat < n → pget ls 0 = some (2, 590) → pget ls 2 = some (0, i) → WT 2 g H → IM H → frm [32, 33, 3012] H0 H → H 591 2 = c → 404 ≤ i → i ≤ 1112 → Tr G us kd_X12_strike 3 (zget kd_X12_strike 19) 19 ls [] H (fun r H' => (∃ x, r = some (0, x)) ∧ WT 2 g H' ∧ frm [32, 33, 3012] H0 H' ∧ IM H') := by
  intro n
  induction n with
  | zero => intros; omega
  | succ n ih =>
    intro ls H i hn  l0 l2 hW hM hF hc i0 i1
    have z1 : zw (i + 12) = i + 12 := zw_lit (by omega) (by omega)
    have z2 : zw (i + 1) = i + 1 := zw_lit (by omega) (by omega)
    have z3 : zw (c - 1) = c - 1 := zw_lit (by omega) (by omega)
    refine tr_lab (D := 2) (t := 19) vb_X12_strike_19 _ ve_X12_strike_19 ?_
    simp (maxDischargeDepth := 12) [vb_X12_strike_19, wB, wI, k1, kI, kR, kL, k2, pget, parg, ppush, pcat, zw_lit, zw_m1, zw_m2, zw_m3, zNC_eq, zrow, pup_app, pget_pss, pget_psx, nlg_some, nlg_none, gv_590_0, tg_12_0, sh_590, sh_591, hc, z1, z2, z3, l0, l2]
    repeat' (with_reducible (first | (refine And.intro ?_ ?_) | intro _))
    all_goals try (refine tr_lab (D := 2) (t := 50) vb_X12_strike_50 _ ve_X12_strike_50 ?_; simp (maxDischargeDepth := 12) [vb_X12_strike_50, wB, wI, k1, kI, kR, kL, k2, pget, parg, ppush, pcat, zw_lit, zw_m1, zw_m2, zw_m3, zNC_eq, zrow, pup_app, pget_pss, pget_psx, nlg_some, nlg_none, gv_590_0, tg_12_0, sh_590, sh_591, hc, z1, z2, z3, l0, l2])
    all_goals repeat' (with_reducible (first | (refine And.intro ?_ ?_) | intro _))
    all_goals try (refine ih _ _ (i + 1) ?_ ?_ ?_ ?_ ?_ ?_ ?_ ?_ ?_)
    all_goals try simp (maxDischargeDepth := 12) [pget_pss, pget_psx, nlg_some, nlg_none, pget, pup_app, l0, l2]
    all_goals (first | omega | (exact WT_wr hW (by omega) (by omega) (av_line hW i0 (by omega))) | (exact WT_wr hW (by omega) (by omega) (vin (by omega) (by omega))) | (rw [u591 (by omega)]; assumption) | assumption | exact frm_refl _ _ | (exact ⟨_, rfl⟩) | ((repeat (first | assumption | exact frm_refl _ _ | (exact ⟨_, rfl⟩) | (refine WT_wr ?_ (by omega) (by omega) (by first | assumption | (exact av_top rfl (by first | omega | exact zw_lo _ | exact zw_hi _) (by first | omega | exact zw_lo _ | exact zw_hi _)) | (exact av_bill (by omega) (by omega) (by omega) (by omega) (by omega) (by first | omega | exact zw_lo _ | exact zw_hi _) (by first | omega | exact zw_lo _ | exact zw_hi _)) | (exact av_rem (by omega) (by omega) (by omega) (by omega)) | (exact vin (by omega) (by omega)))) | (refine fa_591 ?_ rfl) | (refine hF2 _ ?_) | (refine IM_wr ?_ (by omega)))); done) | skip)

set_option maxRecDepth 20000 in
set_option maxHeartbeats 4000000 in
theorem ca_X12_strike {G : zG} {us : Nat} {g : Nat → Nat → Int} (b : Int) (H : PH) (hW : WT 2 g H) (hM : IM H) : Ca G us 3 266 [(2, 590), (0, b)] H (fun r H' => (∃ x, r = some (0, x)) ∧ WT 2 g H' ∧ frm [32, 33, 3012] H H' ∧ IM H') := by
  have h2 := rd_2 hW
  refine ⟨_, _, _, _, _, _, vm_X12_strike, by simp [pcat], ?_⟩
  refine tr_lab (D := 2) (t := 0) vb_X12_strike_0 _ ve_X12_strike_0 ?_
  simp (maxDischargeDepth := 12) [vb_X12_strike_0, wB, wI, k1, kI, kR, kL, k2, pget, parg, ppush, pcat, zw_lit, zw_m1, zw_m2, zw_m3, zNC_eq, zrow, pup_app, pget_pss, pget_psx, nlg_some, nlg_none, gv_590_0, tg_12_0, sh_590, sh_591]
  repeat' (with_reducible (first | (refine And.intro ?_ ?_) | intro _))
  all_goals try (refine Ca_use (ca_X12_isLine _ _ (by omega) (by omega)) (by omega) ?_; rintro _ _ ⟨rfl, rfl⟩; simp (maxDischargeDepth := 12) [wB, wI, k1, kI, kR, kL, k2, pget, parg, ppush, pcat, zw_lit, zw_m1, zw_m2, zw_m3, zNC_eq, zrow, pup_app, pget_pss, pget_psx, nlg_some, nlg_none, gv_590_0, tg_12_0, sh_590, sh_591])
  all_goals repeat' (with_reducible (first | (refine And.intro ?_ ?_) | intro _))
  all_goals try (refine tr_lab (D := 2) (t := 10) vb_X12_strike_10 _ ve_X12_strike_10 ?_; simp (maxDischargeDepth := 12) [vb_X12_strike_10, wB, wI, k1, kI, kR, kL, k2, pget, parg, ppush, pcat, zw_lit, zw_m1, zw_m2, zw_m3, zNC_eq, zrow, pup_app, pget_pss, pget_psx, nlg_some, nlg_none, gv_590_0, tg_12_0, sh_590, sh_591])
  all_goals repeat' (with_reducible (first | (refine And.intro ?_ ?_) | intro _))
  all_goals try (refine Ca_use (ca_deed' _ (by assumption) (by assumption)) (by omega) ?_; rintro _ _ ⟨rfl, hW2, hF2, hM2, e2⟩; simp (maxDischargeDepth := 12) [wB, wI, k1, kI, kR, kL, k2, pget, parg, ppush, pcat, zw_lit, zw_m1, zw_m2, zw_m3, zNC_eq, zrow, pup_app, pget_pss, pget_psx, nlg_some, nlg_none, gv_590_0, tg_12_0, sh_590, sh_591])
  all_goals repeat' (with_reducible (first | (refine And.intro ?_ ?_) | intro _))
  all_goals try (refine Ca_use (ca_X12_lineAt _ _ (by omega) (by omega)) (by omega) ?_; rintro _ _ ⟨rfl, rfl⟩; simp (maxDischargeDepth := 12) [wB, wI, k1, kI, kR, kL, k2, pget, parg, ppush, pcat, zw_lit, zw_m1, zw_m2, zw_m3, zNC_eq, zrow, pup_app, pget_pss, pget_psx, nlg_some, nlg_none, gv_590_0, tg_12_0, sh_590, sh_591])
  all_goals repeat' (with_reducible (first | (refine And.intro ?_ ?_) | intro _))
  all_goals try ((refine lp_X12_strike_19 H (H 591 2) (by omega) (by omega) 709 _ _ (404 + 12 * b) ?_ ?_ ?_ ?_ ?_ ?_ ?_ ?_ ?_) <;> (try simp (maxDischargeDepth := 12) [pget_pss, pget_psx, nlg_some, nlg_none, pget, pup_app]))
  all_goals (first | omega | (rw [e2]) | (exact hF2 _ (frm_refl _ _)) | assumption | exact frm_refl _ _ | (exact ⟨_, rfl⟩) | ((repeat (first | assumption | exact frm_refl _ _ | (exact ⟨_, rfl⟩) | (refine WT_wr ?_ (by omega) (by omega) (by first | assumption | (exact av_top rfl (by first | omega | exact zw_lo _ | exact zw_hi _) (by first | omega | exact zw_lo _ | exact zw_hi _)) | (exact av_bill (by omega) (by omega) (by omega) (by omega) (by omega) (by first | omega | exact zw_lo _ | exact zw_hi _) (by first | omega | exact zw_lo _ | exact zw_hi _)) | (exact av_rem (by omega) (by omega) (by omega) (by omega)) | (exact vin (by omega) (by omega)))) | (refine fa_591 ?_ rfl) | (refine hF2 _ ?_) | (refine IM_wr ?_ (by omega)))); done) | skip)

