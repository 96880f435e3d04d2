/-! ===== the model reads the law ===== -/
def GA (H : PH) (R : Option (Int × List Int)) : Prop := H 590 6 = -1 ∧ KA H R
def KF (H : PH) (R : Option (Int × List Int)) : Prop := H 590 6 = -1 ∧ KE H R
def EK (H : PH) (R : Option (Int × List Int)) : Prop := (H 590 6 = -1 ∧ R = some (H 590 11, cdM H)) ∨ (¬ H 590 6 = -1 ∧ R = none)
theorem EK_no {H : PH} {R : Option (Int × List Int)} {x : Int} (h : 0 ≤ x) (hR : R = none) : EK (pup H 590 6 x) R := Or.inr ⟨by show ¬ x = -1; omega, hR⟩
theorem EK_yes {H : PH} {R : Option (Int × List Int)} (h : H 590 6 = -1) (hR : R = some (H 590 11, cdM H)) : EK H R := Or.inl ⟨h, hR⟩
theorem pup2 {H : PH} {v a v' a' : Int} : pup (pup (pup (pup H 590 7 v) 590 5 a) 590 7 v') 590 5 a' = pup (pup H 590 7 v') 590 5 a' := by
  funext c i
  unfold pup
  by_cases h5 : c = 590 ∧ i = 5
  · rw [if_pos h5, if_pos h5]
  · rw [if_neg h5, if_neg h5]
    by_cases h7 : c = 590 ∧ i = 7
    · rw [if_pos h7, if_pos h7]
    · rw [if_neg h7, if_neg h7, if_neg h5, if_neg h7]
theorem hr_pp {H : PH} {v a : Int} (h : 0 ≤ a) : hr (pup (pup H 590 7 v) 590 5 a) = nxb (TM H) (H 590 4) a := by
  have e : TM (pup (pup H 590 7 v) 590 5 a) = TM H := TM_cg (by rw [pup_r (by decide), pup_r (by decide)])
  rw [hr_nxb (by exact h), e]
  rfl

set_option maxRecDepth 20000 in
set_option maxHeartbeats 4000000 in
theorem lp_X12_readDigits_29F {G : zG} {us : Nat} (H0 : PH) (m : Nat)  (hm : m ≤ 4) (h0 : 0 ≤ H0 590 5) (h1 : H0 590 4 ≤ 600) : ∀ (n : Nat) (ls : PL) (H : PH) (a : Int) (v : Int), (600 - a).toNat < n → pnl ls → pget ls 0 = some (2, 590) → pget ls 1 = some (0, (m : Int)) → pget ls 2 = some (0, H0 590 5) → H = pup (pup H0 590 7 v) 590 5 a → H0 590 5 ≤ a → a ≤ H0 590 5 + m → a ≤ 600 → dgt (TM H0) (H0 590 4) m (H0 590 5) 0 = dgt (TM H0) (H0 590 4) (H0 590 5 + m - a).toNat a v → 0 ≤ v → v ≤ 9999 → (a - H0 590 5 = 0 → v ≤ 0) ∧ (a - H0 590 5 = 1 → v ≤ 9) ∧ (a - H0 590 5 = 2 → v ≤ 99) ∧ (a - H0 590 5 = 3 → v ≤ 999) → Tr G us kd_X12_readDigits 2 (zget kd_X12_readDigits 29) 29 ls [] H (fun r H' => ∃ a v, dgt (TM H0) (H0 590 4) m (H0 590 5) 0 = (a, v) ∧ ((isD (nxb (TM H0) (H0 590 4) a) ∧ r = some (0, 0)) ∨ (¬ isD (nxb (TM H0) (H0 590 4) a) ∧ r = some (0, 1) ∧ H' = pup (pup H0 590 7 v) 590 5 a))) := by
  intro n
  induction n with
  | zero => intros; omega
  | succ n ih =>
    intro ls H a v hn hnl l0 l1 l2 hH ha0 ha1 ha2 hd hv0 hv1 hb
    subst hH
    have za : zw (a + 1) = a + 1 := zw_lit (by omega) (by omega)
    have zs : zw (a - H0 590 5) = a - H0 590 5 := zw_lit (by omega) (by omega)
    have e5 : pup (pup H0 590 7 v) 590 5 a 590 5 = a := rfl
    have e7 : pup (pup H0 590 7 v) 590 5 a 590 7 = v := rfl
    have e4 : pup (pup H0 590 7 v) 590 5 a 590 4 = H0 590 4 := rfl
    have eh : hr (pup (pup H0 590 7 v) 590 5 a) = nxb (TM H0) (H0 590 4) a := hr_pp (by omega)
    have eh2 : H0 590 4 ≤ a → ¬ isD (nxb (TM H0) (H0 590 4) a) := fun q => by
      have : nxb (TM H0) (H0 590 4) a = -1 := if_neg (by omega)
      rw [this]
      omega
    have hlt : isD (nxb (TM H0) (H0 590 4) a) → a < H0 590 4 := fun q => nxb_lt (by omega)
    have zv : 48 ≤ nxb (TM H0) (H0 590 4) a → nxb (TM H0) (H0 590 4) a ≤ 57 → a - H0 590 5 < m → zw (zw (zw (10 * v) + nxb (TM H0) (H0 590 4) a) - 48) = v * 10 + nxb (TM H0) (H0 590 4) a - 48 := fun x y y2 => by
      rw [zw_lit (x := 10 * v) (by omega) (by omega), zw_lit (x := 10 * v + nxb (TM H0) (H0 590 4) a) (by omega) (by omega), zw_lit (by omega) (by omega)]
      omega
    have hE : m ≤ a - H0 590 5 ∨ ¬ isD (nxb (TM H0) (H0 590 4) a) → dgt (TM H0) (H0 590 4) m (H0 590 5) 0 = (a, v) := fun q => by
      rw [hd]
      refine dgt_end ?_
      rcases q with q | q
      · exact Or.inl (by omega)
      · exact Or.inr q
    have hS : isD (nxb (TM H0) (H0 590 4) a) → a - H0 590 5 < m → dgt (TM H0) (H0 590 4) m (H0 590 5) 0 = dgt (TM H0) (H0 590 4) (H0 590 5 + m - (a + 1)).toNat (a + 1) (v * 10 + nxb (TM H0) (H0 590 4) a - 48) := fun x y => by
      have hz := hlt x
      have e0 : nxb (TM H0) (H0 590 4) a = TM H0 a := if_pos ⟨by omega, hz⟩
      rw [e0] at x ⊢
      rw [hd, dgt_step (by omega) (by omega) hz x, show (H0 590 5 + m - (a + 1)).toNat = (H0 590 5 + m - a).toNat - 1 by omega]
    refine tr_lab (D := 1) (t := 29) vb_X12_readDigits_29 _ ve_X12_readDigits_29 ?_
    simp (maxDischargeDepth := 12) [vb_X12_readDigits_29, wB, wI, k1, kI, kR, kL, k2, pget, pget_pset, pnl_pset, pnl_cons, pnl_nil, parg, ppush, pcat, zw_lit, zw_m1, zw_m2, zw_m3, zNC_eq, zrow, pup_app, gv_590_5, gv_590_7, pe, tg_12_5, tg_12_7, zfit, zisI, sh_590, za, zs, e5, e7, e4, eh, hnl, l0, l1, l2]
    repeat' (with_reducible (first | (refine And.intro ?_ ?_) | intro _))
    all_goals try (refine Ca_use (ca_X12_here _ (by (try simp [pup_app]); omega) (by (try simp [pup_app]); omega)) (by omega) ?_; rintro _ _ ⟨rfl, rfl, hx⟩; simp (maxDischargeDepth := 12) [wB, wI, k1, kI, kR, kL, k2, pget, pget_pset, pnl_pset, pnl_cons, pnl_nil, parg, ppush, pcat, zw_lit, zw_m1, zw_m2, zw_m3, zNC_eq, zrow, pup_app, gv_590_5, gv_590_7, pe, tg_12_5, tg_12_7, zfit, zisI, sh_590, za, zs, e5, e7, e4, eh, hnl, l0, l1, l2])
    all_goals repeat' (with_reducible (first | (refine And.intro ?_ ?_) | intro _))
    all_goals try (refine Ca_use (ca_X12_isFigure _ _) (by omega) ?_; rintro _ _ ⟨rfl, rfl⟩; simp (maxDischargeDepth := 12) [wB, wI, k1, kI, kR, kL, k2, pget, pget_pset, pnl_pset, pnl_cons, pnl_nil, parg, ppush, pcat, zw_lit, zw_m1, zw_m2, zw_m3, zNC_eq, zrow, pup_app, gv_590_5, gv_590_7, pe, tg_12_5, tg_12_7, zfit, zisI, sh_590, za, zs, e5, e7, e4, eh, hnl, l0, l1, l2])
    all_goals repeat' (with_reducible (first | (refine And.intro ?_ ?_) | intro _))
    all_goals try (refine Ca_use (ca_X12_here _ (by (try simp [pup_app]); omega) (by (try simp [pup_app]); omega)) (by omega) ?_; rintro _ _ ⟨rfl, rfl, hx⟩; simp (maxDischargeDepth := 12) [wB, wI, k1, kI, kR, kL, k2, pget, pget_pset, pnl_pset, pnl_cons, pnl_nil, parg, ppush, pcat, zw_lit, zw_m1, zw_m2, zw_m3, zNC_eq, zrow, pup_app, gv_590_5, gv_590_7, pe, tg_12_5, tg_12_7, zfit, zisI, sh_590, za, zs, e5, e7, e4, eh, hnl, l0, l1, l2])
    all_goals repeat' (with_reducible (first | (refine And.intro ?_ ?_) | intro _))
    all_goals try (refine tr_lab (D := 1) (t := 81) vb_X12_readDigits_81 _ ve_X12_readDigits_81 ?_; simp (maxDischargeDepth := 12) [vb_X12_readDigits_81, wB, wI, k1, kI, kR, kL, k2, pget, pget_pset, pnl_pset, pnl_cons, pnl_nil, parg, ppush, pcat, zw_lit, zw_m1, zw_m2, zw_m3, zNC_eq, zrow, pup_app, gv_590_5, gv_590_7, pe, tg_12_5, tg_12_7, zfit, zisI, sh_590, za, zs, e5, e7, e4, eh, hnl, l0, l1, l2])
    all_goals repeat' (with_reducible (first | (refine And.intro ?_ ?_) | intro _))
    all_goals try (refine Ca_use (ca_X12_here _ (by (try simp [pup_app]); omega) (by (try simp [pup_app]); omega)) (by omega) ?_; rintro _ _ ⟨rfl, rfl, hx⟩; simp (maxDischargeDepth := 12) [wB, wI, k1, kI, kR, kL, k2, pget, pget_pset, pnl_pset, pnl_cons, pnl_nil, parg, ppush, pcat, zw_lit, zw_m1, zw_m2, zw_m3, zNC_eq, zrow, pup_app, gv_590_5, gv_590_7, pe, tg_12_5, tg_12_7, zfit, zisI, sh_590, za, zs, e5, e7, e4, eh, hnl, l0, l1, l2])
    all_goals repeat' (with_reducible (first | (refine And.intro ?_ ?_) | intro _))
    all_goals try (refine Ca_use (ca_X12_isFigure _ _) (by omega) ?_; rintro _ _ ⟨rfl, rfl⟩; simp (maxDischargeDepth := 12) [wB, wI, k1, kI, kR, kL, k2, pget, pget_pset, pnl_pset, pnl_cons, pnl_nil, parg, ppush, pcat, zw_lit, zw_m1, zw_m2, zw_m3, zNC_eq, zrow, pup_app, gv_590_5, gv_590_7, pe, tg_12_5, tg_12_7, zfit, zisI, sh_590, za, zs, e5, e7, e4, eh, hnl, l0, l1, l2])
    all_goals repeat' (with_reducible (first | (refine And.intro ?_ ?_) | intro _))
    all_goals try (refine Ca_use (ca_X12_fails _ _) (by omega) ?_; rintro _ _ ⟨rfl, rfl⟩; simp (maxDischargeDepth := 12) [wB, wI, k1, kI, kR, kL, k2, pget, pget_pset, pnl_pset, pnl_cons, pnl_nil, parg, ppush, pcat, zw_lit, zw_m1, zw_m2, zw_m3, zNC_eq, zrow, pup_app, gv_590_5, gv_590_7, pe, tg_12_5, tg_12_7, zfit, zisI, sh_590, za, zs, e5, e7, e4, eh, hnl, l0, l1, l2])
    all_goals repeat' (with_reducible (first | (refine And.intro ?_ ?_) | intro _))
    all_goals try (refine tr_lab (D := 1) (t := 102) vb_X12_readDigits_102 _ ve_X12_readDigits_102 ?_; simp (maxDischargeDepth := 12) [vb_X12_readDigits_102, wB, wI, k1, kI, kR, kL, k2, pget, pget_pset, pnl_pset, pnl_cons, pnl_nil, parg, ppush, pcat, zw_lit, zw_m1, zw_m2, zw_m3, zNC_eq, zrow, pup_app, gv_590_5, gv_590_7, pe, tg_12_5, tg_12_7, zfit, zisI, sh_590, za, zs, e5, e7, e4, eh, hnl, l0, l1, l2])
    all_goals repeat' (with_reducible (first | (refine And.intro ?_ ?_) | intro _))
    all_goals try (refine tr_lab (D := 1) (t := 106) vb_X12_readDigits_106 _ ve_X12_readDigits_106 ?_; simp (maxDischargeDepth := 12) [vb_X12_readDigits_106, wB, wI, k1, kI, kR, kL, k2, pget, pget_pset, pnl_pset, pnl_cons, pnl_nil, parg, ppush, pcat, zw_lit, zw_m1, zw_m2, zw_m3, zNC_eq, zrow, pup_app, gv_590_5, gv_590_7, pe, tg_12_5, tg_12_7, zfit, zisI, sh_590, za, zs, e5, e7, e4, eh, hnl, l0, l1, l2])
    all_goals repeat' (with_reducible (first | (refine And.intro ?_ ?_) | intro _))
    all_goals try (refine tr_lab (D := 1) (t := 107) vb_X12_readDigits_107 _ ve_X12_readDigits_107 ?_; simp (maxDischargeDepth := 12) [vb_X12_readDigits_107, wB, wI, k1, kI, kR, kL, k2, pget, pget_pset, pnl_pset, pnl_cons, pnl_nil, parg, ppush, pcat, zw_lit, zw_m1, zw_m2, zw_m3, zNC_eq, zrow, pup_app, gv_590_5, gv_590_7, pe, tg_12_5, tg_12_7, zfit, zisI, sh_590, za, zs, e5, e7, e4, eh, hnl, l0, l1, l2])
    all_goals repeat' (with_reducible (first | (refine And.intro ?_ ?_) | intro _))
    all_goals try (refine ih _ _ (a + 1) (v * 10 + nxb (TM H0) (H0 590 4) a - 48) ?_ ?_ ?_ ?_ ?_ ?_ ?_ ?_ ?_ ?_ ?_ ?_ ?_)
    all_goals try simp (maxDischargeDepth := 12) [pget_pset, pnl_pset, pnl_cons, pnl_nil, pget, hnl, pup_app, l0, l1, l2]
    all_goals (first | omega | assumption | (exact pup2) | (rw [zv (by omega) (by omega) (by omega)]; first | omega | exact pup2 | exact hS (by omega) (by omega)) | (exact hS (by omega) (by omega)) | (exact ⟨_, _, hE (by omega), Or.inl ⟨by omega, rfl⟩⟩) | (exact ⟨_, _, hE (by omega), Or.inr ⟨by omega, rfl, rfl⟩⟩) | (exact ⟨_, _, hE (by omega), by omega⟩) | (constructor <;> omega) | skip)

set_option maxRecDepth 20000 in
set_option maxHeartbeats 4000000 in
theorem ca_X12_readDigitsF {G : zG} {us : Nat} (m : Nat) (H : PH) (hm : m ≤ 4) (h0 : 0 ≤ H 590 5) (h1 : H 590 4 ≤ 600) (h2 : H 590 5 ≤ 600) (hD : isD (hr H)) : Ca G us 2 169 [(2, 590), (0, (m : Int))] H (fun r H' => ∃ a v, dgt (TM H) (H 590 4) m (H 590 5) 0 = (a, v) ∧ ((isD (nxb (TM H) (H 590 4) a) ∧ r = some (0, 0)) ∨ (¬ isD (nxb (TM H) (H 590 4) a) ∧ r = some (0, 1) ∧ H' = pup (pup H 590 7 v) 590 5 a))) := by
  have hD0 := hD.1
  have hD1 := hD.2
  refine ⟨_, _, _, _, _, _, vm_X12_readDigits, by simp [pcat], ?_⟩
  refine tr_lab (D := 1) (t := 0) vb_X12_readDigits_0 _ ve_X12_readDigits_0 ?_
  simp (maxDischargeDepth := 12) [vb_X12_readDigits_0, wB, wI, k1, kI, kR, kL, k2, pget, pget_pset, pnl_pset, pnl_cons, pnl_nil, parg, ppush, pcat, zw_lit, zw_m1, zw_m2, zw_m3, zNC_eq, zrow, pup_app, gv_590_5, gv_590_7, pe, tg_12_5, tg_12_7, zfit, zisI, sh_590]
  repeat' (with_reducible (first | (refine And.intro ?_ ?_) | intro _))
  all_goals try (refine Ca_use (ca_X12_here _ (by (try simp [pup_app]); omega) (by (try simp [pup_app]); omega)) (by omega) ?_; rintro _ _ ⟨rfl, rfl, hx⟩; simp (maxDischargeDepth := 12) [wB, wI, k1, kI, kR, kL, k2, pget, pget_pset, pnl_pset, pnl_cons, pnl_nil, parg, ppush, pcat, zw_lit, zw_m1, zw_m2, zw_m3, zNC_eq, zrow, pup_app, gv_590_5, gv_590_7, pe, tg_12_5, tg_12_7, zfit, zisI, sh_590])
  all_goals repeat' (with_reducible (first | (refine And.intro ?_ ?_) | intro _))
  all_goals try (refine Ca_use (ca_X12_isFigure _ _) (by omega) ?_; rintro _ _ ⟨rfl, rfl⟩; simp (maxDischargeDepth := 12) [wB, wI, k1, kI, kR, kL, k2, pget, pget_pset, pnl_pset, pnl_cons, pnl_nil, parg, ppush, pcat, zw_lit, zw_m1, zw_m2, zw_m3, zNC_eq, zrow, pup_app, gv_590_5, gv_590_7, pe, tg_12_5, tg_12_7, zfit, zisI, sh_590])
  all_goals repeat' (with_reducible (first | (refine And.intro ?_ ?_) | intro _))
  all_goals try (refine Ca_use (ca_X12_fails _ _) (by omega) ?_; rintro _ _ ⟨rfl, rfl⟩; simp (maxDischargeDepth := 12) [wB, wI, k1, kI, kR, kL, k2, pget, pget_pset, pnl_pset, pnl_cons, pnl_nil, parg, ppush, pcat, zw_lit, zw_m1, zw_m2, zw_m3, zNC_eq, zrow, pup_app, gv_590_5, gv_590_7, pe, tg_12_5, tg_12_7, zfit, zisI, sh_590])
  all_goals repeat' (with_reducible (first | (refine And.intro ?_ ?_) | intro _))
  all_goals try (refine tr_lab (D := 1) (t := 19) vb_X12_readDigits_19 _ ve_X12_readDigits_19 ?_; simp (maxDischargeDepth := 12) [vb_X12_readDigits_19, wB, wI, k1, kI, kR, kL, k2, pget, pget_pset, pnl_pset, pnl_cons, pnl_nil, parg, ppush, pcat, zw_lit, zw_m1, zw_m2, zw_m3, zNC_eq, zrow, pup_app, gv_590_5, gv_590_7, pe, tg_12_5, tg_12_7, zfit, zisI, sh_590])
  all_goals repeat' (with_reducible (first | (refine And.intro ?_ ?_) | intro _))
  all_goals try ((refine lp_X12_readDigits_29F H m hm h0 h1 601 _ _ (H 590 5) 0 ?_ ?_ ?_ ?_ ?_ ?_ ?_ ?_ ?_ ?_ ?_ ?_ ?_) <;> (try simp (maxDischargeDepth := 12) [pget_pset, pnl_pset, pnl_cons, pnl_nil, pget, pup_app]))
  all_goals (first | omega | (exact pup_id.symm) | (rw [show (H 590 5 + (m : Int) - H 590 5).toNat = m by omega]) | (constructor <;> omega) | skip)

set_option maxRecDepth 20000 in
set_option maxHeartbeats 4000000 in
theorem ca_isPSF {G : zG} {us : Nat}  (H : PH) (ha0 : 0 ≤ H 590 5) (ht : H 590 4 ≤ 600) : Ca G us 2 186 [(2, 590)] H (fun r H' => H = H' ∧ ((r = some (0, 0) ∧ ¬ isP (hr H)) ∨ (r = some (0, 1) ∧ isP (hr H)))) := by
  refine ⟨_, _, _, _, _, _, vm_X12_isProductSign, by simp [pcat], ?_⟩
  refine tr_lab (D := 1) (t := 0) vb_X12_isProductSign_0 _ ve_X12_isProductSign_0 ?_
  simp (maxDischargeDepth := 12) [vb_X12_isProductSign_0, wB, wI, k1, kI, kR, kL, k2, pget, parg, ppush, pcat, zw_lit, zw_m1, zw_m2, zw_m3, zNC_eq, zrow, pup_app, pget_pss, pget_psx, nlg_some, nlg_none, sh_590]
  repeat' (with_reducible (first | (refine And.intro ?_ ?_) | intro _))
  all_goals try (refine Ca_use (ca_X12_here _ (by (try simp [pup_app]); omega) (by (try simp [pup_app]); omega)) (by omega) ?_; rintro _ _ ⟨rfl, rfl, hx⟩; simp (maxDischargeDepth := 12) [wB, wI, k1, kI, kR, kL, k2, pget, parg, ppush, pcat, zw_lit, zw_m1, zw_m2, zw_m3, zNC_eq, zrow, pup_app, pget_pss, pget_psx, nlg_some, nlg_none, sh_590])
  all_goals repeat' (with_reducible (first | (refine And.intro ?_ ?_) | intro _))
  all_goals try (refine Ca_use (ca_X12_here _ (by (try simp [pup_app]); omega) (by (try simp [pup_app]); omega)) (by omega) ?_; rintro _ _ ⟨rfl, rfl, hx⟩; simp (maxDischargeDepth := 12) [wB, wI, k1, kI, kR, kL, k2, pget, parg, ppush, pcat, zw_lit, zw_m1, zw_m2, zw_m3, zNC_eq, zrow, pup_app, pget_pss, pget_psx, nlg_some, nlg_none, sh_590])
  all_goals repeat' (with_reducible (first | (refine And.intro ?_ ?_) | intro _))
  all_goals try (refine Ca_use (ca_X12_here _ (by (try simp [pup_app]); omega) (by (try simp [pup_app]); omega)) (by omega) ?_; rintro _ _ ⟨rfl, rfl, hx⟩; simp (maxDischargeDepth := 12) [wB, wI, k1, kI, kR, kL, k2, pget, parg, ppush, pcat, zw_lit, zw_m1, zw_m2, zw_m3, zNC_eq, zrow, pup_app, pget_pss, pget_psx, nlg_some, nlg_none, sh_590])
  all_goals repeat' (with_reducible (first | (refine And.intro ?_ ?_) | intro _))
  all_goals try (refine Ca_use (ca_X12_here _ (by (try simp [pup_app]); omega) (by (try simp [pup_app]); omega)) (by omega) ?_; rintro _ _ ⟨rfl, rfl, hx⟩; simp (maxDischargeDepth := 12) [wB, wI, k1, kI, kR, kL, k2, pget, parg, ppush, pcat, zw_lit, zw_m1, zw_m2, zw_m3, zNC_eq, zrow, pup_app, pget_pss, pget_psx, nlg_some, nlg_none, sh_590])
  all_goals repeat' (with_reducible (first | (refine And.intro ?_ ?_) | intro _))
  all_goals try (refine tr_lab (D := 1) (t := 36) vb_X12_isProductSign_36 _ ve_X12_isProductSign_36 ?_; simp (maxDischargeDepth := 12) [vb_X12_isProductSign_36, wB, wI, k1, kI, kR, kL, k2, pget, parg, ppush, pcat, zw_lit, zw_m1, zw_m2, zw_m3, zNC_eq, zrow, pup_app, pget_pss, pget_psx, nlg_some, nlg_none, sh_590])
  all_goals repeat' (with_reducible (first | (refine And.intro ?_ ?_) | intro _))
  all_goals try (refine tr_lab (D := 1) (t := 40) vb_X12_isProductSign_40 _ ve_X12_isProductSign_40 ?_; simp (maxDischargeDepth := 12) [vb_X12_isProductSign_40, wB, wI, k1, kI, kR, kL, k2, pget, parg, ppush, pcat, zw_lit, zw_m1, zw_m2, zw_m3, zNC_eq, zrow, pup_app, pget_pss, pget_psx, nlg_some, nlg_none, sh_590])
  all_goals repeat' (with_reducible (first | (refine And.intro ?_ ?_) | intro _))
  all_goals try (refine tr_lab (D := 1) (t := 41) vb_X12_isProductSign_41 _ ve_X12_isProductSign_41 ?_; simp (maxDischargeDepth := 12) [vb_X12_isProductSign_41, wB, wI, k1, kI, kR, kL, k2, pget, parg, ppush, pcat, zw_lit, zw_m1, zw_m2, zw_m3, zNC_eq, zrow, pup_app, pget_pss, pget_psx, nlg_some, nlg_none, sh_590])
  all_goals repeat' (with_reducible (first | (refine And.intro ?_ ?_) | intro _))
  all_goals (first | omega | (simp; omega) | (simp; done) | skip)

set_option maxRecDepth 20000 in
set_option maxHeartbeats 4000000 in
theorem sg_X12_goesOnF_134 {G : zG} {us : Nat} {g : Nat → Nat → Int} (H0 : PH) (R : Option (Int × List Int)) (O : Int) (ihx : ∀ (ls : PL) (H : PH), H 590 14 < O → pget ls 0 = some (2, 590) → WT 2 g H → frm [80, 81, 82, 6012, 7012, 11012, 15012] H0 H → LSt H 1 0 → GA H R → Tr G us kd_X12_goesOn 3 (zget kd_X12_goesOn 0) 0 ls [] H (fun r H' => WT 2 g H' ∧ frm [80, 81, 82, 6012, 7012, 11012, 15012] H0 H' ∧ ((r = some (0, 0) ∧ (∃ d, LN H' d) ∧ EK H' R) ∨ (r = some (0, 1) ∧ LSt H' 0 0 ∧ KF H' R)))) (o : Int) (o0 : 0 ≤ o) (o8 : o ≤ 8) (hoO : o = O)  : ∀ (ls : PL) (H : PH), pget ls 0 = some (2, 590) → pget ls 1 = some (0, o) → WT 2 g H → frm [80, 81, 82, 6012, 7012, 11012, 15012] H0 H → H 590 14 = o → LSt H 1 0 → H 597 o = 0 → H 596 o = 0 → GA H R → ¬ isP (hr H) → ¬ isS (hr H) → Tr G us kd_X12_goesOn 3 (zget kd_X12_goesOn 134) 134 ls [] H (fun r H' => WT 2 g H' ∧ frm [80, 81, 82, 6012, 7012, 11012, 15012] H0 H' ∧ ((r = some (0, 0) ∧ (∃ d, LN H' d) ∧ EK H' R) ∨ (r = some (0, 1) ∧ LSt H' 0 0 ∧ KF H' R))) := by
  intro ls H  l0 l1 hW hF ho hL hp hs hK hnP hnS
  have h5 := rf_590_5 hW
  have h4 := rf_590_4 hW
  have z5 : H 590 5 < H 590 4 → zw (H 590 5 + 1) = H 590 5 + 1 := fun _ => zw_lit (by omega) (by omega)
  have hE0 : o = 0 → _ := fun q => KA_end (by omega) (by rw [← q]; exact hp) (by rw [← q]; exact hs) h5.1 hnP hnS hK.2
  have hE1 : 1 ≤ o → _ := fun q => KA_shut ho q hp hs h5.1 hnP hnS hK.2
  have zo : zw (o - 1) = o - 1 := zw_lit (by omega) (by omega)
  have hcl : 1 ≤ o → LSt (pup H 590 14 (o - 1)) 1 0 := fun q => by
    have := LSt_close hL (by omega) (by rw [ho]; exact hs) (by rw [ho]; exact hp)
    rw [ho] at this
    exact this
  have hcl5 : 1 ≤ o → LSt (pup (pup H 590 5 (H 590 5 + 1)) 590 14 (o - 1)) 1 0 := fun q => by
    have h := LSt_close (LSt_at (i := 5) (v := H 590 5 + 1) hL (by omega)) (H := pup H 590 5 (H 590 5 + 1)) (by show 1 ≤ H 590 14; omega) (by show H 596 (H 590 14) = 0; rw [ho]; exact hs) (by show H 597 (H 590 14) = 0; rw [ho]; exact hp)
    have e : pup H 590 5 (H 590 5 + 1) 590 14 = H 590 14 := rfl
    rw [e, ho] at h
    exact h
  refine tr_lab (D := 2) (t := 134) vb_X12_goesOn_134 _ ve_X12_goesOn_134 ?_
  simp (maxDischargeDepth := 12) [vb_X12_goesOn_134, wB, wI, k1, kI, kR, kL, k2, pget, parg, ppush, pcat, zw_lit, zw_m1, zw_m2, zw_m3, zNC_eq, zrow, pup_app, pget_pss, pget_psx, nlg_some, nlg_none, gv_590_12, gv_590_13, gv_590_14, gv_590_4, gv_590_5, pe, tg_12_12, tg_12_13, tg_12_14, tg_12_4, tg_12_5, zfit, zisI, sh_590, ho, zo, l0, l1]
  repeat' (with_reducible (first | (refine And.intro ?_ ?_) | intro _))
  all_goals try (refine Ca_use (ca_X12_fails _ _) (by omega) ?_; rintro _ _ ⟨rfl, rfl⟩; simp (maxDischargeDepth := 12) [wB, wI, k1, kI, kR, kL, k2, pget, parg, ppush, pcat, zw_lit, zw_m1, zw_m2, zw_m3, zNC_eq, zrow, pup_app, pget_pss, pget_psx, nlg_some, nlg_none, gv_590_12, gv_590_13, gv_590_14, gv_590_4, gv_590_5, pe, tg_12_12, tg_12_13, tg_12_14, tg_12_4, tg_12_5, zfit, zisI, sh_590, ho, zo, l0, l1])
  all_goals repeat' (with_reducible (first | (refine And.intro ?_ ?_) | intro _))
  all_goals try (refine tr_lab (D := 2) (t := 164) vb_X12_goesOn_164 _ ve_X12_goesOn_164 ?_; simp (maxDischargeDepth := 12) [vb_X12_goesOn_164, wB, wI, k1, kI, kR, kL, k2, pget, parg, ppush, pcat, zw_lit, zw_m1, zw_m2, zw_m3, zNC_eq, zrow, pup_app, pget_pss, pget_psx, nlg_some, nlg_none, gv_590_12, gv_590_13, gv_590_14, gv_590_4, gv_590_5, pe, tg_12_12, tg_12_13, tg_12_14, tg_12_4, tg_12_5, zfit, zisI, sh_590, ho, zo, l0, l1])
  all_goals repeat' (with_reducible (first | (refine And.intro ?_ ?_) | intro _))
  all_goals try (refine tr_lab (D := 2) (t := 165) vb_X12_goesOn_165 _ ve_X12_goesOn_165 ?_; simp (maxDischargeDepth := 12) [vb_X12_goesOn_165, wB, wI, k1, kI, kR, kL, k2, pget, parg, ppush, pcat, zw_lit, zw_m1, zw_m2, zw_m3, zNC_eq, zrow, pup_app, pget_pss, pget_psx, nlg_some, nlg_none, gv_590_12, gv_590_13, gv_590_14, gv_590_4, gv_590_5, pe, tg_12_12, tg_12_13, tg_12_14, tg_12_4, tg_12_5, zfit, zisI, sh_590, ho, zo, l0, l1])
  all_goals repeat' (with_reducible (first | (refine And.intro ?_ ?_) | intro _))
  all_goals try (refine tr_lab (D := 2) (t := 166) vb_X12_goesOn_166 _ ve_X12_goesOn_166 ?_; simp (maxDischargeDepth := 12) [vb_X12_goesOn_166, wB, wI, k1, kI, kR, kL, k2, pget, parg, ppush, pcat, zw_lit, zw_m1, zw_m2, zw_m3, zNC_eq, zrow, pup_app, pget_pss, pget_psx, nlg_some, nlg_none, gv_590_12, gv_590_13, gv_590_14, gv_590_4, gv_590_5, pe, tg_12_12, tg_12_13, tg_12_14, tg_12_4, tg_12_5, zfit, zisI, sh_590, ho, zo, l0, l1])
  all_goals repeat' (with_reducible (first | (refine And.intro ?_ ?_) | intro _))
  all_goals try (refine Ca_use (ca_X12_here _ (by (try simp [pup_app]); omega) (by (try simp [pup_app]); omega)) (by omega) ?_; rintro _ _ ⟨rfl, rfl, hx⟩; simp (maxDischargeDepth := 12) [wB, wI, k1, kI, kR, kL, k2, pget, parg, ppush, pcat, zw_lit, zw_m1, zw_m2, zw_m3, zNC_eq, zrow, pup_app, pget_pss, pget_psx, nlg_some, nlg_none, gv_590_12, gv_590_13, gv_590_14, gv_590_4, gv_590_5, pe, tg_12_12, tg_12_13, tg_12_14, tg_12_4, tg_12_5, zfit, zisI, sh_590, ho, zo, l0, l1])
  all_goals repeat' (with_reducible (first | (refine And.intro ?_ ?_) | intro _))
  all_goals try (refine Ca_use (ca_X12_fails _ _) (by omega) ?_; rintro _ _ ⟨rfl, rfl⟩; simp (maxDischargeDepth := 12) [wB, wI, k1, kI, kR, kL, k2, pget, parg, ppush, pcat, zw_lit, zw_m1, zw_m2, zw_m3, zNC_eq, zrow, pup_app, pget_pss, pget_psx, nlg_some, nlg_none, gv_590_12, gv_590_13, gv_590_14, gv_590_4, gv_590_5, pe, tg_12_12, tg_12_13, tg_12_14, tg_12_4, tg_12_5, zfit, zisI, sh_590, ho, zo, l0, l1])
  all_goals repeat' (with_reducible (first | (refine And.intro ?_ ?_) | intro _))
  all_goals try (refine tr_lab (D := 2) (t := 184) vb_X12_goesOn_184 _ ve_X12_goesOn_184 ?_; simp (maxDischargeDepth := 12) [vb_X12_goesOn_184, wB, wI, k1, kI, kR, kL, k2, pget, parg, ppush, pcat, zw_lit, zw_m1, zw_m2, zw_m3, zNC_eq, zrow, pup_app, pget_pss, pget_psx, nlg_some, nlg_none, gv_590_12, gv_590_13, gv_590_14, gv_590_4, gv_590_5, pe, tg_12_12, tg_12_13, tg_12_14, tg_12_4, tg_12_5, zfit, zisI, sh_590, ho, zo, l0, l1])
  all_goals repeat' (with_reducible (first | (refine And.intro ?_ ?_) | intro _))
  all_goals try ((refine ihx _ _ ?_ ?_ ?_ ?_ ?_ ?_) <;> (try simp (maxDischargeDepth := 12) [pget_pss, pget_psx, nlg_some, nlg_none, pget, pup_app, l0]))
  all_goals (first | omega | assumption | (exact Or.inl ⟨rfl, _, hL.2.2.1⟩) | (exact Or.inl ⟨rfl, _, LN_at hL.2.2.1 (by omega)⟩) | (exact ⟨_, hL.2.2.1⟩) | (exact ⟨_, LN_at hL.2.2.1 (by omega)⟩) | ((repeat (first | assumption | exact frm_refl _ _ | (refine wa_595 ?_ (by omega) (by first | omega | exact zw_lo _ | exact zw_hi _) (by first | omega | exact zw_lo _ | exact zw_hi _)) | (refine wa_596 ?_ (by omega) (by first | omega | exact zw_lo _ | exact zw_hi _) (by first | omega | exact zw_lo _ | exact zw_hi _)) | (refine wa_597 ?_ (by omega) (by first | omega | exact zw_lo _ | exact zw_hi _) (by first | omega | exact zw_lo _ | exact zw_hi _)) | (refine wf_590_5 ?_ (by omega) (by omega)) | (refine wf_590_6 ?_ (by omega) (by omega)) | (refine wf_590_10 ?_ (by omega) (by omega)) | (refine wf_590_11 ?_ (by omega) (by omega)) | (refine wf_590_14 ?_ (by omega) (by omega)) | (refine fa_595 ?_ rfl) | (refine fa_596 ?_ rfl) | (refine fa_597 ?_ rfl) | (refine ff_590_5 ?_ rfl) | (refine ff_590_6 ?_ rfl) | (refine ff_590_10 ?_ rfl) | (refine ff_590_11 ?_ rfl) | (refine ff_590_14 ?_ rfl))); done) | ((repeat (first | assumption | (refine LSt_at ?_ (by omega)) | (refine LN_at ?_ (by omega)))); done) | (exact EK_no h5.1 ((hE0 (by omega)).1 (by omega))) | (exact EK_yes hK.1 ((hE0 (by omega)).2 (by omega))) | (exact EK_no h5.1 ((hE1 (by omega)).1 (by omega))) | (exact ⟨hK.1, (hE1 (by omega)).2 (by omega)⟩) | (exact ⟨⟨_, hL.2.2.1⟩, EK_yes hK.1 ((hE0 (by omega)).2 (by omega))⟩) | (exact ⟨⟨_, LN_at hL.2.2.1 (by omega)⟩, EK_no h5.1 ((hE0 (by omega)).1 (by omega))⟩) | (exact ⟨⟨_, LN_at hL.2.2.1 (by omega)⟩, EK_no h5.1 ((hE1 (by omega)).1 (by omega))⟩) | (exact hcl5 (by omega)) | (rw [zw_lit (by omega) (by omega)]; exact hcl5 (by omega)) | (rw [zw_lit (by omega) (by omega)]; (repeat (first | assumption | exact frm_refl _ _ | (refine wa_595 ?_ (by omega) (by first | omega | exact zw_lo _ | exact zw_hi _) (by first | omega | exact zw_lo _ | exact zw_hi _)) | (refine wa_596 ?_ (by omega) (by first | omega | exact zw_lo _ | exact zw_hi _) (by first | omega | exact zw_lo _ | exact zw_hi _)) | (refine wa_597 ?_ (by omega) (by first | omega | exact zw_lo _ | exact zw_hi _) (by first | omega | exact zw_lo _ | exact zw_hi _)) | (refine wf_590_5 ?_ (by omega) (by omega)) | (refine wf_590_6 ?_ (by omega) (by omega)) | (refine wf_590_10 ?_ (by omega) (by omega)) | (refine wf_590_11 ?_ (by omega) (by omega)) | (refine wf_590_14 ?_ (by omega) (by omega)) | (refine fa_595 ?_ rfl) | (refine fa_596 ?_ rfl) | (refine fa_597 ?_ rfl) | (refine ff_590_5 ?_ rfl) | (refine ff_590_6 ?_ rfl) | (refine ff_590_10 ?_ rfl) | (refine ff_590_11 ?_ rfl) | (refine ff_590_14 ?_ rfl))); done) | decide | skip)

set_option maxRecDepth 20000 in
set_option maxHeartbeats 4000000 in
theorem sg_X12_goesOnF_87 {G : zG} {us : Nat} {g : Nat → Nat → Int} (H0 : PH) (R : Option (Int × List Int)) (O : Int) (ihx : ∀ (ls : PL) (H : PH), H 590 14 < O → pget ls 0 = some (2, 590) → WT 2 g H → frm [80, 81, 82, 6012, 7012, 11012, 15012] H0 H → LSt H 1 0 → GA H R → Tr G us kd_X12_goesOn 3 (zget kd_X12_goesOn 0) 0 ls [] H (fun r H' => WT 2 g H' ∧ frm [80, 81, 82, 6012, 7012, 11012, 15012] H0 H' ∧ ((r = some (0, 0) ∧ (∃ d, LN H' d) ∧ EK H' R) ∨ (r = some (0, 1) ∧ LSt H' 0 0 ∧ KF H' R)))) (o : Int) (o0 : 0 ≤ o) (o8 : o ≤ 8) (hoO : o = O)  : ∀ (ls : PL) (H : PH), pget ls 0 = some (2, 590) → pget ls 1 = some (0, o) → WT 2 g H → frm [80, 81, 82, 6012, 7012, 11012, 15012] H0 H → H 590 14 = o → LSt (pup H 596 o 0) 1 0 → H 597 o = 0 → GA (pup H 596 o 0) R → ¬ isP (hr H) → Tr G us kd_X12_goesOn 3 (zget kd_X12_goesOn 87) 87 ls [] H (fun r H' => WT 2 g H' ∧ frm [80, 81, 82, 6012, 7012, 11012, 15012] H0 H' ∧ ((r = some (0, 0) ∧ (∃ d, LN H' d) ∧ EK H' R) ∨ (r = some (0, 1) ∧ LSt H' 0 0 ∧ KF H' R))) := by
  intro ls H  l0 l1 hW hF ho hL hp hK hnP
  have h5 := rf_590_5 hW
  have h4 := rf_590_4 hW
  have z5 : H 590 5 < H 590 4 → zw (H 590 5 + 1) = H 590 5 + 1 := fun _ => zw_lit (by omega) (by omega)
  have e14 : pup H 596 o 0 590 14 = o := ho
  have ehr : hr (pup H 596 o 0) = hr H := hr_cg (pup_r (by decide)) rfl rfl
  have hS : isS (hr H) → KF (pup (pup (pup H 596 o 0) 596 o (hr H)) 590 5 (H 590 5 + 1)) R := fun q => ⟨hK.1, KE_plus ho o0 hL h5.1 hp q rfl hK.2⟩
  have eo : pup H 596 o 0 596 o = 0 := if_pos ⟨rfl, rfl⟩
  have p5 : pup H 596 o 0 590 5 = H 590 5 := rfl
  have p4 : pup H 596 o 0 590 4 = H 590 4 := rfl
  have hset : ∀ v : Int, 1 ≤ v → v ≤ 255 → LSt (pup (pup H 596 o 0) 596 o v) 0 0 := fun v v0 v1 => by
    have := LSt_596 (v := v) (e' := 0) hL (by omega) v1 (by rw [e14, eo, sg1_0, sg1_1 (by omega)]; rfl)
    rw [e14] at this
    exact this
  refine tr_lab (D := 2) (t := 87) vb_X12_goesOn_87 _ ve_X12_goesOn_87 ?_
  simp (maxDischargeDepth := 12) [vb_X12_goesOn_87, wB, wI, k1, kI, kR, kL, k2, pget, parg, ppush, pcat, zw_lit, zw_m1, zw_m2, zw_m3, zNC_eq, zrow, pup_app, pget_pss, pget_psx, nlg_some, nlg_none, gv_590_12, gv_590_13, gv_590_14, gv_590_4, gv_590_5, pe, tg_12_12, tg_12_13, tg_12_14, tg_12_4, tg_12_5, zfit, zisI, sh_590, sh_596, ho, ehr, l0, l1]
  repeat' (with_reducible (first | (refine And.intro ?_ ?_) | intro _))
  all_goals try (refine Ca_use (ca_X12_here _ (by (try simp [pup_app]); omega) (by (try simp [pup_app]); omega)) (by omega) ?_; rintro _ _ ⟨rfl, rfl, hx⟩; simp (maxDischargeDepth := 12) [wB, wI, k1, kI, kR, kL, k2, pget, parg, ppush, pcat, zw_lit, zw_m1, zw_m2, zw_m3, zNC_eq, zrow, pup_app, pget_pss, pget_psx, nlg_some, nlg_none, gv_590_12, gv_590_13, gv_590_14, gv_590_4, gv_590_5, pe, tg_12_12, tg_12_13, tg_12_14, tg_12_4, tg_12_5, zfit, zisI, sh_590, sh_596, ho, ehr, l0, l1])
  all_goals repeat' (with_reducible (first | (refine And.intro ?_ ?_) | intro _))
  all_goals try (refine Ca_use (ca_X12_here _ (by (try simp [pup_app]); omega) (by (try simp [pup_app]); omega)) (by omega) ?_; rintro _ _ ⟨rfl, rfl, hx⟩; simp (maxDischargeDepth := 12) [wB, wI, k1, kI, kR, kL, k2, pget, parg, ppush, pcat, zw_lit, zw_m1, zw_m2, zw_m3, zNC_eq, zrow, pup_app, pget_pss, pget_psx, nlg_some, nlg_none, gv_590_12, gv_590_13, gv_590_14, gv_590_4, gv_590_5, pe, tg_12_12, tg_12_13, tg_12_14, tg_12_4, tg_12_5, zfit, zisI, sh_590, sh_596, ho, ehr, l0, l1])
  all_goals repeat' (with_reducible (first | (refine And.intro ?_ ?_) | intro _))
  all_goals try (refine tr_lab (D := 2) (t := 112) vb_X12_goesOn_112 _ ve_X12_goesOn_112 ?_; simp (maxDischargeDepth := 12) [vb_X12_goesOn_112, wB, wI, k1, kI, kR, kL, k2, pget, parg, ppush, pcat, zw_lit, zw_m1, zw_m2, zw_m3, zNC_eq, zrow, pup_app, pget_pss, pget_psx, nlg_some, nlg_none, gv_590_12, gv_590_13, gv_590_14, gv_590_4, gv_590_5, pe, tg_12_12, tg_12_13, tg_12_14, tg_12_4, tg_12_5, zfit, zisI, sh_590, sh_596, ho, ehr, l0, l1])
  all_goals repeat' (with_reducible (first | (refine And.intro ?_ ?_) | intro _))
  all_goals try (refine Ca_use (ca_X12_here _ (by (try simp [pup_app]); omega) (by (try simp [pup_app]); omega)) (by omega) ?_; rintro _ _ ⟨rfl, rfl, hx⟩; simp (maxDischargeDepth := 12) [wB, wI, k1, kI, kR, kL, k2, pget, parg, ppush, pcat, zw_lit, zw_m1, zw_m2, zw_m3, zNC_eq, zrow, pup_app, pget_pss, pget_psx, nlg_some, nlg_none, gv_590_12, gv_590_13, gv_590_14, gv_590_4, gv_590_5, pe, tg_12_12, tg_12_13, tg_12_14, tg_12_4, tg_12_5, zfit, zisI, sh_590, sh_596, ho, ehr, l0, l1])
  all_goals repeat' (with_reducible (first | (refine And.intro ?_ ?_) | intro _))
  all_goals try ((refine sg_X12_goesOnF_134 H0 R O ihx o o0 o8 hoO _ _ ?_ ?_ ?_ ?_ ?_ ?_ ?_ ?_ ?_ ?_ ?_) <;> (try simp (maxDischargeDepth := 12) [pget_pss, pget_psx, nlg_some, nlg_none, pget, pup_app, l0, l1, ho]))
  all_goals (first | omega | assumption | (exact Or.inl ⟨rfl, _, hL.2.2.1⟩) | (exact Or.inl ⟨rfl, _, LN_at hL.2.2.1 (by omega)⟩) | (exact ⟨_, hL.2.2.1⟩) | (exact ⟨_, LN_at hL.2.2.1 (by omega)⟩) | ((repeat (first | assumption | exact frm_refl _ _ | (refine wa_595 ?_ (by omega) (by first | omega | exact zw_lo _ | exact zw_hi _) (by first | omega | exact zw_lo _ | exact zw_hi _)) | (refine wa_596 ?_ (by omega) (by first | omega | exact zw_lo _ | exact zw_hi _) (by first | omega | exact zw_lo _ | exact zw_hi _)) | (refine wa_597 ?_ (by omega) (by first | omega | exact zw_lo _ | exact zw_hi _) (by first | omega | exact zw_lo _ | exact zw_hi _)) | (refine wf_590_5 ?_ (by omega) (by omega)) | (refine wf_590_6 ?_ (by omega) (by omega)) | (refine wf_590_10 ?_ (by omega) (by omega)) | (refine wf_590_11 ?_ (by omega) (by omega)) | (refine wf_590_14 ?_ (by omega) (by omega)) | (refine fa_595 ?_ rfl) | (refine fa_596 ?_ rfl) | (refine fa_597 ?_ rfl) | (refine ff_590_5 ?_ rfl) | (refine ff_590_6 ?_ rfl) | (refine ff_590_10 ?_ rfl) | (refine ff_590_11 ?_ rfl) | (refine ff_590_14 ?_ rfl))); done) | ((repeat (first | assumption | (refine LSt_at ?_ (by omega)) | (refine LN_at ?_ (by omega)))); done) | (rw [ehr] at hPQ; exact hS hPQ) | (rw [ehr] at hPQ; rw [zw_lit (by omega) (by omega)]; exact hS hPQ) | (rw [ehr]; rw [ehr] at hnQ; exact hnQ) | (rw [ehr] at hnQ; exact hnQ) | (rw [ehr]; exact hnP) |(exact hS (by omega)) | (rw [zw_lit (by omega) (by omega)]; exact hS (by omega)) | (exact ⟨LSt_at (hset _ (by omega) (by omega)) (by omega), hS (by omega)⟩) | (rw [zw_lit (by omega) (by omega)]; exact ⟨LSt_at (hset _ (by omega) (by omega)) (by omega), hS (by omega)⟩) |(exact Or.inr ⟨rfl, LSt_at (hset _ (by omega) (by omega)) (by omega)⟩) | (exact LSt_at (hset _ (by omega) (by omega)) (by omega)) | (rw [zw_lit (by omega) (by omega)]; first | exact Or.inr ⟨rfl, LSt_at (hset _ (by omega) (by omega)) (by omega)⟩ | exact LSt_at (hset _ (by omega) (by omega)) (by omega)) | (rw [zw_lit (by omega) (by omega)]; (repeat (first | assumption | exact frm_refl _ _ | (refine wa_595 ?_ (by omega) (by first | omega | exact zw_lo _ | exact zw_hi _) (by first | omega | exact zw_lo _ | exact zw_hi _)) | (refine wa_596 ?_ (by omega) (by first | omega | exact zw_lo _ | exact zw_hi _) (by first | omega | exact zw_lo _ | exact zw_hi _)) | (refine wa_597 ?_ (by omega) (by first | omega | exact zw_lo _ | exact zw_hi _) (by first | omega | exact zw_lo _ | exact zw_hi _)) | (refine wf_590_5 ?_ (by omega) (by omega)) | (refine wf_590_6 ?_ (by omega) (by omega)) | (refine wf_590_10 ?_ (by omega) (by omega)) | (refine wf_590_11 ?_ (by omega) (by omega)) | (refine wf_590_14 ?_ (by omega) (by omega)) | (refine fa_595 ?_ rfl) | (refine fa_596 ?_ rfl) | (refine fa_597 ?_ rfl) | (refine ff_590_5 ?_ rfl) | (refine ff_590_6 ?_ rfl) | (refine ff_590_10 ?_ rfl) | (refine ff_590_11 ?_ rfl) | (refine ff_590_14 ?_ rfl))); done) | decide | skip)

set_option maxRecDepth 20000 in
set_option maxHeartbeats 4000000 in
theorem sg_X12_goesOnF_64 {G : zG} {us : Nat} {g : Nat → Nat → Int} (H0 : PH) (R : Option (Int × List Int)) (O : Int) (ihx : ∀ (ls : PL) (H : PH), H 590 14 < O → pget ls 0 = some (2, 590) → WT 2 g H → frm [80, 81, 82, 6012, 7012, 11012, 15012] H0 H → LSt H 1 0 → GA H R → Tr G us kd_X12_goesOn 3 (zget kd_X12_goesOn 0) 0 ls [] H (fun r H' => WT 2 g H' ∧ frm [80, 81, 82, 6012, 7012, 11012, 15012] H0 H' ∧ ((r = some (0, 0) ∧ (∃ d, LN H' d) ∧ EK H' R) ∨ (r = some (0, 1) ∧ LSt H' 0 0 ∧ KF H' R)))) (o : Int) (o0 : 0 ≤ o) (o8 : o ≤ 8) (hoO : o = O)  : ∀ (ls : PL) (H : PH), pget ls 0 = some (2, 590) → pget ls 1 = some (0, o) → WT 2 g H → frm [80, 81, 82, 6012, 7012, 11012, 15012] H0 H → H 590 14 = o → LSt H 1 0 → H 597 o = 0 → GA H R → ¬ isP (hr H) → Tr G us kd_X12_goesOn 3 (zget kd_X12_goesOn 64) 64 ls [] H (fun r H' => WT 2 g H' ∧ frm [80, 81, 82, 6012, 7012, 11012, 15012] H0 H' ∧ ((r = some (0, 0) ∧ (∃ d, LN H' d) ∧ EK H' R) ∨ (r = some (0, 1) ∧ LSt H' 0 0 ∧ KF H' R))) := by
  intro ls H  l0 l1 hW hF ho hL hp hK hnP
  have h5 := rf_590_5 hW
  have h4 := rf_590_4 hW
  have z5 : H 590 5 < H 590 4 → zw (H 590 5 + 1) = H 590 5 + 1 := fun _ => zw_lit (by omega) (by omega)
  have hn := LSt_n hL (by omega) (by omega)
  have hb := hL.2.1 o o0 (by omega)
  have zn : zw (11000 + H 596 o) = 11000 + H 596 o := zw_lit (by omega) (by omega)
  have k0 : H 596 o = 0 → GA (pup H 596 o 0) R := fun q => ⟨hK.1, by
    have := KA_sum0 (by rw [ho]; exact q) hK.2
    rw [ho] at this
    exact this⟩
  have k1 : ¬ H 596 o = 0 → GA (pup (pup (pup H 595 (H 590 10) (11000 + H 596 o)) 590 10 (H 590 10 + 1)) 596 o 0) R := fun q => ⟨hK.1, by
    have := KA_sum (by omega) hn.1 h5.1 (by rw [ho]; exact hp) (by rw [ho]; exact q) hnP hK.2
    rw [ho] at this
    exact this⟩
  have ehd : ∀ x y : Int, hr (pup (pup H 595 (H 590 10) x) 590 10 y) = hr H := fun x y => hr_cg (by rw [pup_r (by decide), pup_r (by decide)]) rfl rfl
  have h0 : H 596 o = 0 → LSt (pup H 596 o 0) 1 0 := fun q => by
    have := LSt_596 (v := 0) (e' := 1) hL (by omega) (by omega) (by rw [ho, q]; rfl)
    rw [ho] at this
    exact this
  have h1 : H 596 o ≠ 0 → LSt (pup (pup (pup H 595 (H 590 10) (11000 + H 596 o)) 590 10 (H 590 10 + 1)) 596 o 0) 1 0 := fun q => by
    have h2 := LSt_op (x := 11000 + H 596 o) hL (by omega) (PCH_1 hL (Or.inr (by rw [ho]; exact q)))
    have e14 : pup (pup H 595 (H 590 10) (11000 + H 596 o)) 590 10 (H 590 10 + 1) 590 14 = o := ho
    have e6 : pup (pup H 595 (H 590 10) (11000 + H 596 o)) 590 10 (H 590 10 + 1) 596 o = H 596 o := by rw [pup_row (by decide), pup_row (by decide)]
    have := LSt_596 (v := 0) (e' := 1) h2 (by omega) (by omega) (by rw [e14, e6, sg1_1 q, sg1_0]; rfl)
    rw [e14] at this
    exact this
  refine tr_lab (D := 2) (t := 64) vb_X12_goesOn_64 _ ve_X12_goesOn_64 ?_
  simp (maxDischargeDepth := 12) [vb_X12_goesOn_64, wB, wI, k1, kI, kR, kL, k2, pget, parg, ppush, pcat, zw_lit, zw_m1, zw_m2, zw_m3, zNC_eq, zrow, pup_app, pget_pss, pget_psx, nlg_some, nlg_none, gv_590_12, gv_590_13, gv_590_14, gv_590_4, gv_590_5, pe, tg_12_12, tg_12_13, tg_12_14, tg_12_4, tg_12_5, zfit, zisI, sh_590, sh_596, ho, zn, l0, l1]
  repeat' (with_reducible (first | (refine And.intro ?_ ?_) | intro _))
  all_goals try (refine Ca_use (ca_X12_does _ _ (by (try simp [pup_app]); omega) (by (try simp [pup_app]); omega)) (by omega) ?_; rintro _ _ ⟨rfl, rfl⟩; simp (maxDischargeDepth := 12) [wB, wI, k1, kI, kR, kL, k2, pget, parg, ppush, pcat, zw_lit, zw_m1, zw_m2, zw_m3, zNC_eq, zrow, pup_app, pget_pss, pget_psx, nlg_some, nlg_none, gv_590_12, gv_590_13, gv_590_14, gv_590_4, gv_590_5, pe, tg_12_12, tg_12_13, tg_12_14, tg_12_4, tg_12_5, zfit, zisI, sh_590, sh_596, ho, zn, l0, l1])
  all_goals repeat' (with_reducible (first | (refine And.intro ?_ ?_) | intro _))
  all_goals try ((refine sg_X12_goesOnF_87 H0 R O ihx o o0 o8 hoO _ _ ?_ ?_ ?_ ?_ ?_ ?_ ?_ ?_ ?_) <;> (try simp (maxDischargeDepth := 12) [pget_pss, pget_psx, nlg_some, nlg_none, pget, pup_app, l0, l1, ho]))
  all_goals (first | omega | assumption | (exact Or.inl ⟨rfl, _, hL.2.2.1⟩) | (exact Or.inl ⟨rfl, _, LN_at hL.2.2.1 (by omega)⟩) | (exact ⟨_, hL.2.2.1⟩) | (exact ⟨_, LN_at hL.2.2.1 (by omega)⟩) | ((repeat (first | assumption | exact frm_refl _ _ | (refine wa_595 ?_ (by omega) (by first | omega | exact zw_lo _ | exact zw_hi _) (by first | omega | exact zw_lo _ | exact zw_hi _)) | (refine wa_596 ?_ (by omega) (by first | omega | exact zw_lo _ | exact zw_hi _) (by first | omega | exact zw_lo _ | exact zw_hi _)) | (refine wa_597 ?_ (by omega) (by first | omega | exact zw_lo _ | exact zw_hi _) (by first | omega | exact zw_lo _ | exact zw_hi _)) | (refine wf_590_5 ?_ (by omega) (by omega)) | (refine wf_590_6 ?_ (by omega) (by omega)) | (refine wf_590_10 ?_ (by omega) (by omega)) | (refine wf_590_11 ?_ (by omega) (by omega)) | (refine wf_590_14 ?_ (by omega) (by omega)) | (refine fa_595 ?_ rfl) | (refine fa_596 ?_ rfl) | (refine fa_597 ?_ rfl) | (refine ff_590_5 ?_ rfl) | (refine ff_590_6 ?_ rfl) | (refine ff_590_10 ?_ rfl) | (refine ff_590_11 ?_ rfl) | (refine ff_590_14 ?_ rfl))); done) | ((repeat (first | assumption | (refine LSt_at ?_ (by omega)) | (refine LN_at ?_ (by omega)))); done) | (exact h0 (by assumption)) | (exact h1 (by assumption)) | (exact k0 (by assumption)) | (exact k1 (by assumption)) | (rw [ehd]; exact hnP) | (rw [pup_row (by decide), pup_row (by decide)]; assumption) | decide | skip)

set_option maxRecDepth 20000 in
set_option maxHeartbeats 4000000 in
theorem sg_X12_goesOnF_28 {G : zG} {us : Nat} {g : Nat → Nat → Int} (H0 : PH) (R : Option (Int × List Int)) (O : Int) (ihx : ∀ (ls : PL) (H : PH), H 590 14 < O → pget ls 0 = some (2, 590) → WT 2 g H → frm [80, 81, 82, 6012, 7012, 11012, 15012] H0 H → LSt H 1 0 → GA H R → Tr G us kd_X12_goesOn 3 (zget kd_X12_goesOn 0) 0 ls [] H (fun r H' => WT 2 g H' ∧ frm [80, 81, 82, 6012, 7012, 11012, 15012] H0 H' ∧ ((r = some (0, 0) ∧ (∃ d, LN H' d) ∧ EK H' R) ∨ (r = some (0, 1) ∧ LSt H' 0 0 ∧ KF H' R)))) (o : Int) (o0 : 0 ≤ o) (o8 : o ≤ 8) (hoO : o = O)  : ∀ (ls : PL) (H : PH), pget ls 0 = some (2, 590) → pget ls 1 = some (0, o) → WT 2 g H → frm [80, 81, 82, 6012, 7012, 11012, 15012] H0 H → H 590 14 = o → LSt (pup H 597 o 0) 1 0 → GA (pup H 597 o 0) R → Tr G us kd_X12_goesOn 3 (zget kd_X12_goesOn 28) 28 ls [] H (fun r H' => WT 2 g H' ∧ frm [80, 81, 82, 6012, 7012, 11012, 15012] H0 H' ∧ ((r = some (0, 0) ∧ (∃ d, LN H' d) ∧ EK H' R) ∨ (r = some (0, 1) ∧ LSt H' 0 0 ∧ KF H' R))) := by
  intro ls H  l0 l1 hW hF ho hL hK
  have h5 := rf_590_5 hW
  have h4 := rf_590_4 hW
  have z5 : H 590 5 < H 590 4 → zw (H 590 5 + 1) = H 590 5 + 1 := fun _ => zw_lit (by omega) (by omega)
  have e14 : pup H 597 o 0 590 14 = o := ho
  have ehr : hr (pup H 597 o 0) = hr H := hr_cg (pup_r (by decide)) rfl rfl
  have hS : isP (hr H) → KF (pup (pup (pup H 597 o 0) 597 o (hr H)) 590 5 (H 590 5 + 1)) R := fun q => ⟨hK.1, KE_more ho o0 hL h5.1 q rfl hK.2⟩
  have eo : pup H 597 o 0 597 o = 0 := if_pos ⟨rfl, rfl⟩
  have p5 : pup H 597 o 0 590 5 = H 590 5 := rfl
  have p4 : pup H 597 o 0 590 4 = H 590 4 := rfl
  have hset : ∀ v : Int, 1 ≤ v → v ≤ 255 → LSt (pup (pup H 597 o 0) 597 o v) 0 0 := fun v v0 v1 => by
    have := LSt_597 (v := v) (e' := 0) hL (by omega) v1 (by rw [e14, eo, sg1_0, sg1_1 (by omega)]; rfl)
    rw [e14] at this
    exact this
  refine tr_lab (D := 2) (t := 28) vb_X12_goesOn_28 _ ve_X12_goesOn_28 ?_
  simp (maxDischargeDepth := 12) [vb_X12_goesOn_28, wB, wI, k1, kI, kR, kL, k2, pget, parg, ppush, pcat, zw_lit, zw_m1, zw_m2, zw_m3, zNC_eq, zrow, pup_app, pget_pss, pget_psx, nlg_some, nlg_none, gv_590_12, gv_590_13, gv_590_14, gv_590_4, gv_590_5, pe, tg_12_12, tg_12_13, tg_12_14, tg_12_4, tg_12_5, zfit, zisI, sh_590, sh_597, ho, ehr, l0, l1]
  repeat' (with_reducible (first | (refine And.intro ?_ ?_) | intro _))
  all_goals try (refine Ca_use (ca_isPSF _ (by (try simp [pup_app]); omega) (by (try simp [pup_app]); omega)) (by omega) ?_; rintro _ _ ⟨rfl, (⟨rfl, hnQ⟩ | ⟨rfl, hPQ⟩)⟩; simp (maxDischargeDepth := 12) [wB, wI, k1, kI, kR, kL, k2, pget, parg, ppush, pcat, zw_lit, zw_m1, zw_m2, zw_m3, zNC_eq, zrow, pup_app, pget_pss, pget_psx, nlg_some, nlg_none, gv_590_12, gv_590_13, gv_590_14, gv_590_4, gv_590_5, pe, tg_12_12, tg_12_13, tg_12_14, tg_12_4, tg_12_5, zfit, zisI, sh_590, sh_597, ho, ehr, l0, l1])
  all_goals repeat' (with_reducible (first | (refine And.intro ?_ ?_) | intro _))
  all_goals try (refine Ca_use (ca_X12_here _ (by (try simp [pup_app]); omega) (by (try simp [pup_app]); omega)) (by omega) ?_; rintro _ _ ⟨rfl, rfl, hx⟩; simp (maxDischargeDepth := 12) [wB, wI, k1, kI, kR, kL, k2, pget, parg, ppush, pcat, zw_lit, zw_m1, zw_m2, zw_m3, zNC_eq, zrow, pup_app, pget_pss, pget_psx, nlg_some, nlg_none, gv_590_12, gv_590_13, gv_590_14, gv_590_4, gv_590_5, pe, tg_12_12, tg_12_13, tg_12_14, tg_12_4, tg_12_5, zfit, zisI, sh_590, sh_597, ho, ehr, l0, l1])
  all_goals repeat' (with_reducible (first | (refine And.intro ?_ ?_) | intro _))
  all_goals try ((refine sg_X12_goesOnF_64 H0 R O ihx o o0 o8 hoO _ _ ?_ ?_ ?_ ?_ ?_ ?_ ?_ ?_ ?_) <;> (try simp (maxDischargeDepth := 12) [pget_pss, pget_psx, nlg_some, nlg_none, pget, pup_app, l0, l1, ho]))
  all_goals (first | omega | assumption | (exact Or.inl ⟨rfl, _, hL.2.2.1⟩) | (exact Or.inl ⟨rfl, _, LN_at hL.2.2.1 (by omega)⟩) | (exact ⟨_, hL.2.2.1⟩) | (exact ⟨_, LN_at hL.2.2.1 (by omega)⟩) | ((repeat (first | assumption | exact frm_refl _ _ | (refine wa_595 ?_ (by omega) (by first | omega | exact zw_lo _ | exact zw_hi _) (by first | omega | exact zw_lo _ | exact zw_hi _)) | (refine wa_596 ?_ (by omega) (by first | omega | exact zw_lo _ | exact zw_hi _) (by first | omega | exact zw_lo _ | exact zw_hi _)) | (refine wa_597 ?_ (by omega) (by first | omega | exact zw_lo _ | exact zw_hi _) (by first | omega | exact zw_lo _ | exact zw_hi _)) | (refine wf_590_5 ?_ (by omega) (by omega)) | (refine wf_590_6 ?_ (by omega) (by omega)) | (refine wf_590_10 ?_ (by omega) (by omega)) | (refine wf_590_11 ?_ (by omega) (by omega)) | (refine wf_590_14 ?_ (by omega) (by omega)) | (refine fa_595 ?_ rfl) | (refine fa_596 ?_ rfl) | (refine fa_597 ?_ rfl) | (refine ff_590_5 ?_ rfl) | (refine ff_590_6 ?_ rfl) | (refine ff_590_10 ?_ rfl) | (refine ff_590_11 ?_ rfl) | (refine ff_590_14 ?_ rfl))); done) | ((repeat (first | assumption | (refine LSt_at ?_ (by omega)) | (refine LN_at ?_ (by omega)))); done) | (rw [ehr] at hPQ; exact hS hPQ) | (rw [ehr] at hPQ; rw [zw_lit (by omega) (by omega)]; exact hS hPQ) | (rw [ehr]; rw [ehr] at hnQ; exact hnQ) | (rw [ehr] at hnQ; exact hnQ) | (rw [ehr]; exact hnP) |(exact hS (by omega)) | (rw [zw_lit (by omega) (by omega)]; exact hS (by omega)) | (exact ⟨LSt_at (hset _ (by omega) (by omega)) (by omega), hS (by omega)⟩) | (rw [zw_lit (by omega) (by omega)]; exact ⟨LSt_at (hset _ (by omega) (by omega)) (by omega), hS (by omega)⟩) |(exact Or.inr ⟨rfl, LSt_at (hset _ (by omega) (by omega)) (by omega)⟩) | (exact LSt_at (hset _ (by omega) (by omega)) (by omega)) | (rw [zw_lit (by omega) (by omega)]; first | exact Or.inr ⟨rfl, LSt_at (hset _ (by omega) (by omega)) (by omega)⟩ | exact LSt_at (hset _ (by omega) (by omega)) (by omega)) | (rw [zw_lit (by omega) (by omega)]; (repeat (first | assumption | exact frm_refl _ _ | (refine wa_595 ?_ (by omega) (by first | omega | exact zw_lo _ | exact zw_hi _) (by first | omega | exact zw_lo _ | exact zw_hi _)) | (refine wa_596 ?_ (by omega) (by first | omega | exact zw_lo _ | exact zw_hi _) (by first | omega | exact zw_lo _ | exact zw_hi _)) | (refine wa_597 ?_ (by omega) (by first | omega | exact zw_lo _ | exact zw_hi _) (by first | omega | exact zw_lo _ | exact zw_hi _)) | (refine wf_590_5 ?_ (by omega) (by omega)) | (refine wf_590_6 ?_ (by omega) (by omega)) | (refine wf_590_10 ?_ (by omega) (by omega)) | (refine wf_590_11 ?_ (by omega) (by omega)) | (refine wf_590_14 ?_ (by omega) (by omega)) | (refine fa_595 ?_ rfl) | (refine fa_596 ?_ rfl) | (refine fa_597 ?_ rfl) | (refine ff_590_5 ?_ rfl) | (refine ff_590_6 ?_ rfl) | (refine ff_590_10 ?_ rfl) | (refine ff_590_11 ?_ rfl) | (refine ff_590_14 ?_ rfl))); done) | decide | skip)

set_option maxRecDepth 20000 in
set_option maxHeartbeats 4000000 in
theorem sg_X12_goesOnF_0 {G : zG} {us : Nat} {g : Nat → Nat → Int} (H0 H : PH) (R : Option (Int × List Int)) (ihx : ∀ (ls : PL) (H1 : PH), H1 590 14 < H 590 14 → pget ls 0 = some (2, 590) → WT 2 g H1 → frm [80, 81, 82, 6012, 7012, 11012, 15012] H0 H1 → LSt H1 1 0 → GA H1 R → Tr G us kd_X12_goesOn 3 (zget kd_X12_goesOn 0) 0 ls [] H1 (fun r H' => WT 2 g H' ∧ frm [80, 81, 82, 6012, 7012, 11012, 15012] H0 H' ∧ ((r = some (0, 0) ∧ (∃ d, LN H' d) ∧ EK H' R) ∨ (r = some (0, 1) ∧ LSt H' 0 0 ∧ KF H' R))))  : ∀ (ls : PL) , pget ls 0 = some (2, 590) → WT 2 g H → frm [80, 81, 82, 6012, 7012, 11012, 15012] H0 H → LSt H 1 0 → GA H R → Tr G us kd_X12_goesOn 3 (zget kd_X12_goesOn 0) 0 ls [] H (fun r H' => WT 2 g H' ∧ frm [80, 81, 82, 6012, 7012, 11012, 15012] H0 H' ∧ ((r = some (0, 0) ∧ (∃ d, LN H' d) ∧ EK H' R) ∨ (r = some (0, 1) ∧ LSt H' 0 0 ∧ KF H' R))) := by
  intro ls   l0 hW hF hL hK
  have ho := hL.1
  have hn := LSt_n hL (by omega) (by omega)
  have hb := hL.2.1 (H 590 14) (by omega) (by omega)
  have zn : zw (11000 + H 597 (H 590 14)) = 11000 + H 597 (H 590 14) := zw_lit (by omega) (by omega)
  have k0 : H 597 (H 590 14) = 0 → GA (pup H 597 (H 590 14) 0) R := fun q => ⟨hK.1, KA_prod0 q hK.2⟩
  have k1 : ¬ H 597 (H 590 14) = 0 → GA (pup (pup (pup H 595 (H 590 10) (11000 + H 597 (H 590 14))) 590 10 (H 590 10 + 1)) 597 (H 590 14) 0) R := fun q => ⟨hK.1, KA_prod ho.1 hn.1 q hK.2⟩
  have h0 : H 597 (H 590 14) = 0 → LSt (pup H 597 (H 590 14) 0) 1 0 := fun q => LSt_597 (v := 0) (e' := 1) hL (by omega) (by omega) (by rw [q]; rfl)
  have h1 : H 597 (H 590 14) ≠ 0 → LSt (pup (pup (pup H 595 (H 590 10) (11000 + H 597 (H 590 14))) 590 10 (H 590 10 + 1)) 597 (H 590 14) 0) 1 0 := fun q => by
    have h2 := LSt_op (x := 11000 + H 597 (H 590 14)) hL (by omega) (PCH_1 hL (Or.inl q))
    have e14 : pup (pup H 595 (H 590 10) (11000 + H 597 (H 590 14))) 590 10 (H 590 10 + 1) 590 14 = H 590 14 := rfl
    have e7 : pup (pup H 595 (H 590 10) (11000 + H 597 (H 590 14))) 590 10 (H 590 10 + 1) 597 (H 590 14) = H 597 (H 590 14) := by rw [pup_row (by decide), pup_row (by decide)]
    have := LSt_597 (v := 0) (e' := 1) h2 (by omega) (by omega) (by rw [e14, e7, sg1_1 q, sg1_0]; rfl)
    rw [e14] at this
    exact this
  refine tr_lab (D := 2) (t := 0) vb_X12_goesOn_0 _ ve_X12_goesOn_0 ?_
  simp (maxDischargeDepth := 12) [vb_X12_goesOn_0, wB, wI, k1, kI, kR, kL, k2, pget, parg, ppush, pcat, zw_lit, zw_m1, zw_m2, zw_m3, zNC_eq, zrow, pup_app, pget_pss, pget_psx, nlg_some, nlg_none, gv_590_12, gv_590_13, gv_590_14, gv_590_4, gv_590_5, pe, tg_12_12, tg_12_13, tg_12_14, tg_12_4, tg_12_5, zfit, zisI, sh_590, sh_597, zn, l0]
  repeat' (with_reducible (first | (refine And.intro ?_ ?_) | intro _))
  all_goals try (refine Ca_use (ca_X12_does _ _ (by (try simp [pup_app]); omega) (by (try simp [pup_app]); omega)) (by omega) ?_; rintro _ _ ⟨rfl, rfl⟩; simp (maxDischargeDepth := 12) [wB, wI, k1, kI, kR, kL, k2, pget, parg, ppush, pcat, zw_lit, zw_m1, zw_m2, zw_m3, zNC_eq, zrow, pup_app, pget_pss, pget_psx, nlg_some, nlg_none, gv_590_12, gv_590_13, gv_590_14, gv_590_4, gv_590_5, pe, tg_12_12, tg_12_13, tg_12_14, tg_12_4, tg_12_5, zfit, zisI, sh_590, sh_597, zn, l0])
  all_goals repeat' (with_reducible (first | (refine And.intro ?_ ?_) | intro _))
  all_goals try ((refine sg_X12_goesOnF_28 H0 R (H 590 14) ihx (H 590 14) (by omega) (by omega) rfl _ _ ?_ ?_ ?_ ?_ ?_ ?_ ?_) <;> (try simp (maxDischargeDepth := 12) [pget_pss, pget_psx, nlg_some, nlg_none, pget, pup_app, l0]))
  all_goals (first | omega | assumption | (exact Or.inl ⟨rfl, _, hL.2.2.1⟩) | (exact Or.inl ⟨rfl, _, LN_at hL.2.2.1 (by omega)⟩) | (exact ⟨_, hL.2.2.1⟩) | (exact ⟨_, LN_at hL.2.2.1 (by omega)⟩) | ((repeat (first | assumption | exact frm_refl _ _ | (refine wa_595 ?_ (by omega) (by first | omega | exact zw_lo _ | exact zw_hi _) (by first | omega | exact zw_lo _ | exact zw_hi _)) | (refine wa_596 ?_ (by omega) (by first | omega | exact zw_lo _ | exact zw_hi _) (by first | omega | exact zw_lo _ | exact zw_hi _)) | (refine wa_597 ?_ (by omega) (by first | omega | exact zw_lo _ | exact zw_hi _) (by first | omega | exact zw_lo _ | exact zw_hi _)) | (refine wf_590_5 ?_ (by omega) (by omega)) | (refine wf_590_6 ?_ (by omega) (by omega)) | (refine wf_590_10 ?_ (by omega) (by omega)) | (refine wf_590_11 ?_ (by omega) (by omega)) | (refine wf_590_14 ?_ (by omega) (by omega)) | (refine fa_595 ?_ rfl) | (refine fa_596 ?_ rfl) | (refine fa_597 ?_ rfl) | (refine ff_590_5 ?_ rfl) | (refine ff_590_6 ?_ rfl) | (refine ff_590_10 ?_ rfl) | (refine ff_590_11 ?_ rfl) | (refine ff_590_14 ?_ rfl))); done) | ((repeat (first | assumption | (refine LSt_at ?_ (by omega)) | (refine LN_at ?_ (by omega)))); done) | (exact h0 (by assumption)) | (exact h1 (by assumption)) | (exact k0 (by assumption)) | (exact k1 (by assumption)) | decide | skip)

theorem goes_0F {G : zG} {us : Nat} {g : Nat → Nat → Int} (H0 : PH) (R : Option (Int × List Int)) : ∀ (n : Nat) (ls : PL) (H : PH), H 590 14 < n → pget ls 0 = some (2, 590) → WT 2 g H → frm [80, 81, 82, 6012, 7012, 11012, 15012] H0 H → LSt H 1 0 → GA H R → Tr G us kd_X12_goesOn 3 (zget kd_X12_goesOn 0) 0 ls [] H (fun r H' => WT 2 g H' ∧ frm [80, 81, 82, 6012, 7012, 11012, 15012] H0 H' ∧ ((r = some (0, 0) ∧ (∃ d, LN H' d) ∧ EK H' R) ∨ (r = some (0, 1) ∧ LSt H' 0 0 ∧ KF H' R))) := by
  intro n
  induction n with
  | zero =>
    intro ls H hn l0 hW hF hL hK
    have := hL.1
    omega
  | succ n ih =>
    intro ls H hn l0 hW hF hL hK
    exact sg_X12_goesOnF_0 H0 H R (fun ls H1 h => ih ls H1 (by omega)) ls l0 hW hF hL hK
theorem ca_X12_goesOnF {G : zG} {us : Nat} {g : Nat → Nat → Int} (R : Option (Int × List Int)) (H : PH) (hW : WT 2 g H) (hL : LSt H 1 0) (hK : GA H R) : Ca G us 3 187 [(2, 590)] H (fun r H' => WT 2 g H' ∧ frm [80, 81, 82, 6012, 7012, 11012, 15012] H H' ∧ ((r = some (0, 0) ∧ (∃ d, LN H' d) ∧ EK H' R) ∨ (r = some (0, 1) ∧ LSt H' 0 0 ∧ KF H' R))) := by
  refine ⟨_, _, _, _, _, _, vm_X12_goesOn, by simp [pcat], ?_⟩
  exact goes_0F H R 9 _ H (by have := hL.1; omega) rfl hW (frm_refl _ _) hL hK
