set_option maxRecDepth 20000 in
set_option maxHeartbeats 4000000 in
theorem ca_X11_forgetAnswers {G : zG} {us : Nat}  (H : PH)  : Ca G us 1 155 [(2, 0)] H (fun r H' => r = none ∧ H' = pup (pup (pup H 215 1 0) 221 2 0) 372 2 0) := by
  refine ⟨_, _, _, _, _, _, vm_X11_forgetAnswers, by simp [pcat], ?_⟩
  refine tr_lab (D := 0) (t := 0) vb_X11_forgetAnswers_0 _ ve_X11_forgetAnswers_0 ?_
  simp (maxDischargeDepth := 12) [vb_X11_forgetAnswers_0, wB, wI, k1, kI, kR, kL, k2, pget, parg, ppush, pcat, zw_lit, zw_m1, zw_m2, zw_m3, zNC_eq, zrow, pup_app, pget_pss, pget_psx, nlg_some, nlg_none, gv_0_2, gv_0_3, gv_0_4, pe, tg_11_2, tg_11_3, tg_11_4, tg_3_2, tg_6_2, tg_9_1, zfit, zisI, sh_590, sh_0, sh_215, sh_221, sh_372]
  repeat' (with_reducible (first | (refine And.intro ?_ ?_) | intro _))
  all_goals (first | rfl | omega | decide | (unfold zu; decide) | skip)

theorem gv_468 {X : PH} {l : Int} (h0 : 0 ≤ l) (h1 : l ≤ 19) : gv X 468 l = 469 + 6 * l := by
  rcases (by omega : l = 0 ∨ l = 1 ∨ l = 2 ∨ l = 3 ∨ l = 4 ∨ l = 5 ∨ l = 6 ∨ l = 7 ∨ l = 8 ∨ l = 9 ∨ l = 10 ∨ l = 11 ∨ l = 12 ∨ l = 13 ∨ l = 14 ∨ l = 15 ∨ l = 16 ∨ l = 17 ∨ l = 18 ∨ l = 19) with rfl | rfl | rfl | rfl | rfl | rfl | rfl | rfl | rfl | rfl | rfl | rfl | rfl | rfl | rfl | rfl | rfl | rfl | rfl | rfl <;> rfl
theorem sh_deed0 : ∀ l, l < 20 → (Nat.beq (zSh (469 + 6 * l)).1 2 && Nat.beq (zSh (469 + 6 * l)).2.1 6 && (zrt (469 + 6 * l) 0).isNone && (zrt (469 + 6 * l) 1).isNone && (zrt (469 + 6 * l) 2).isNone && (zrt (469 + 6 * l) 3).isNone && (zrt (469 + 6 * l) 4).isNone && (zrt (469 + 6 * l) 5).isNone && Nat.beq (tau (469 + 6 * l)) 2) = true := by decide +kernel
theorem sh_deedN (l : Nat) (h : l < 20) : (zSh (469 + 6 * l)).1 = 2 ∧ (zSh (469 + 6 * l)).2.1 = 6 ∧ zrt (469 + 6 * l) 0 = none ∧ zrt (469 + 6 * l) 1 = none ∧ zrt (469 + 6 * l) 2 = none ∧ zrt (469 + 6 * l) 3 = none ∧ zrt (469 + 6 * l) 4 = none ∧ zrt (469 + 6 * l) 5 = none ∧ tau (469 + 6 * l) = 2 := by
  have := sh_deed0 l h
  simp only [Bool.and_eq_true] at this
  obtain ⟨⟨⟨⟨⟨⟨⟨⟨a, b⟩, c⟩, d⟩, e⟩, f⟩, q⟩, r⟩, s⟩ := this
  exact ⟨Nat.eq_of_beq_eq_true a, Nat.eq_of_beq_eq_true b, Option.isNone_iff_eq_none.mp c, Option.isNone_iff_eq_none.mp d, Option.isNone_iff_eq_none.mp e, Option.isNone_iff_eq_none.mp f, Option.isNone_iff_eq_none.mp q, Option.isNone_iff_eq_none.mp r, Nat.eq_of_beq_eq_true s⟩
theorem deedN {l : Int} (h0 : 0 ≤ l) : (469 + 6 * l).toNat = 469 + 6 * l.toNat := by omega
theorem sh_deed {l : Int} (h0 : 0 ≤ l) (h1 : l ≤ 19) : (zSh (469 + 6 * l).toNat).1 = 2 ∧ (zSh (469 + 6 * l).toNat).2.1 = 6 ∧ zrt (469 + 6 * l).toNat 0 = none ∧ zrt (469 + 6 * l).toNat 1 = none ∧ zrt (469 + 6 * l).toNat 2 = none ∧ zrt (469 + 6 * l).toNat 3 = none := by
  rw [deedN h0]
  have := sh_deedN l.toNat (by omega)
  exact ⟨this.1, this.2.1, this.2.2.1, this.2.2.2.1, this.2.2.2.2.1, this.2.2.2.2.2.1⟩

set_option maxRecDepth 20000 in
set_option maxHeartbeats 4000000 in
theorem ca_X11_noteDeed_a {G : zG} {us : Nat} (k a b d : Int) (H : PH) (e8 : H 0 8 = 19) (h7 : 0 ≤ H 0 7) (h7b : H 0 7 ≤ 20) : Ca G us 2 154 [(2, 0), (0, k), (0, a), (0, b), (0, d)] H (fun r H' => ∃ c : Int, r = some (2, c) ∧ c = 469 + 6 * (0) ∧ H' = pup (pup (pup (pup (pup (pup (pup (pup (pup H 0 8 (0)) 0 7 (if H 0 7 + 1 < 20 then H 0 7 + 1 else 20)) c 0 k) c 1 a) c 2 b) c 3 d) 215 1 0) 221 2 0) 372 2 0) := by
  obtain ⟨c, hc⟩ : ∃ c : Int, c = 469 + 6 * (0) := ⟨_, rfl⟩
  have gD : ∀ X : PH, gv X 468 (0) = c := fun X => by rw [hc]; exact gv_468 (by omega) (by omega)
  have c0 : 0 ≤ c := by omega
  have c1 : c < 622 := by omega
  have s1 : (zSh c.toNat).1 = 2 := by rw [hc]; exact (sh_deed (by omega) (by omega)).1
  have s2 : (zSh c.toNat).2.1 = 6 := by rw [hc]; exact (sh_deed (by omega) (by omega)).2.1
  have z0 : zrt c.toNat 0 = none := by rw [hc]; exact (sh_deed (by omega) (by omega)).2.2.1
  have z1 : zrt c.toNat 1 = none := by rw [hc]; exact (sh_deed (by omega) (by omega)).2.2.2.1
  have z2 : zrt c.toNat 2 = none := by rw [hc]; exact (sh_deed (by omega) (by omega)).2.2.2.2.1
  have z3 : zrt c.toNat 3 = none := by rw [hc]; exact (sh_deed (by omega) (by omega)).2.2.2.2.2
  have n1 : ¬ c = 0 := by omega
  have n2 : ¬ (0 : Int) = c := by omega
  have zm : zw (H 0 7 + 1) = H 0 7 + 1 := zw_lit (by omega) (by omega)
  refine ⟨_, _, _, _, _, _, vm_X11_noteDeed, by simp [pcat], ?_⟩
  refine tr_lab (D := 1) (t := 0) vb_X11_noteDeed_0 _ ve_X11_noteDeed_0 ?_
  simp (maxDischargeDepth := 12) [vb_X11_noteDeed_0, wB, wI, k1, kI, kR, kL, k2, pget, parg, ppush, pcat, zw_lit, zw_m1, zw_m2, zw_m3, zNC_eq, zrow, pup_app, pget_pss, pget_psx, nlg_some, nlg_none, gv_0_6, gv_0_7, gv_0_8, pe, tg_11_6, tg_11_7, tg_11_8, tg_2_0, tg_2_1, tg_2_2, tg_2_3, zfit, zisI, sh_590, sh_0, sh_468, gD, c0, c1, s1, s2, z0, z1, z2, z3, n1, n2, zm, e8]
  repeat' (with_reducible (first | (refine And.intro ?_ ?_) | intro _))
  all_goals try (refine tr_lab (D := 1) (t := 14) vb_X11_noteDeed_14 _ ve_X11_noteDeed_14 ?_; simp (maxDischargeDepth := 12) [vb_X11_noteDeed_14, wB, wI, k1, kI, kR, kL, k2, pget, parg, ppush, pcat, zw_lit, zw_m1, zw_m2, zw_m3, zNC_eq, zrow, pup_app, pget_pss, pget_psx, nlg_some, nlg_none, gv_0_6, gv_0_7, gv_0_8, pe, tg_11_6, tg_11_7, tg_11_8, tg_2_0, tg_2_1, tg_2_2, tg_2_3, zfit, zisI, sh_590, sh_0, sh_468, gD, c0, c1, s1, s2, z0, z1, z2, z3, n1, n2, zm, e8])
  all_goals repeat' (with_reducible (first | (refine And.intro ?_ ?_) | intro _))
  all_goals try (refine tr_lab (D := 1) (t := 20) vb_X11_noteDeed_20 _ ve_X11_noteDeed_20 ?_; simp (maxDischargeDepth := 12) [vb_X11_noteDeed_20, wB, wI, k1, kI, kR, kL, k2, pget, parg, ppush, pcat, zw_lit, zw_m1, zw_m2, zw_m3, zNC_eq, zrow, pup_app, pget_pss, pget_psx, nlg_some, nlg_none, gv_0_6, gv_0_7, gv_0_8, pe, tg_11_6, tg_11_7, tg_11_8, tg_2_0, tg_2_1, tg_2_2, tg_2_3, zfit, zisI, sh_590, sh_0, sh_468, gD, c0, c1, s1, s2, z0, z1, z2, z3, n1, n2, zm, e8])
  all_goals repeat' (with_reducible (first | (refine And.intro ?_ ?_) | intro _))
  all_goals try (refine Ca_use (ca_X11_forgetAnswers _) (by omega) ?_; rintro _ _ ⟨rfl, rfl⟩; simp (maxDischargeDepth := 12) [wB, wI, k1, kI, kR, kL, k2, pget, parg, ppush, pcat, zw_lit, zw_m1, zw_m2, zw_m3, zNC_eq, zrow, pup_app, pget_pss, pget_psx, nlg_some, nlg_none, gv_0_6, gv_0_7, gv_0_8, pe, tg_11_6, tg_11_7, tg_11_8, tg_2_0, tg_2_1, tg_2_2, tg_2_3, zfit, zisI, sh_590, sh_0, sh_468, gD, c0, c1, s1, s2, z0, z1, z2, z3, n1, n2, zm, e8])
  all_goals repeat' (with_reducible (first | (refine And.intro ?_ ?_) | intro _))
  all_goals (first | omega | rfl | decide | (unfold zu; decide) | skip)

set_option maxRecDepth 20000 in
set_option maxHeartbeats 4000000 in
theorem ca_X11_noteDeed_b {G : zG} {us : Nat} (k a b d : Int) (H : PH) (h8 : 0 ≤ H 0 8) (h9 : H 0 8 ≤ 18) (h7 : 0 ≤ H 0 7) (h7b : H 0 7 ≤ 20) : Ca G us 2 154 [(2, 0), (0, k), (0, a), (0, b), (0, d)] H (fun r H' => ∃ c : Int, r = some (2, c) ∧ c = 469 + 6 * (H 0 8 + 1) ∧ H' = pup (pup (pup (pup (pup (pup (pup (pup (pup H 0 8 (H 0 8 + 1)) 0 7 (if H 0 7 + 1 < 20 then H 0 7 + 1 else 20)) c 0 k) c 1 a) c 2 b) c 3 d) 215 1 0) 221 2 0) 372 2 0) := by
  obtain ⟨c, hc⟩ : ∃ c : Int, c = 469 + 6 * (H 0 8 + 1) := ⟨_, rfl⟩
  have gD : ∀ X : PH, gv X 468 (H 0 8 + 1) = c := fun X => by rw [hc]; exact gv_468 (by omega) (by omega)
  have c0 : 0 ≤ c := by omega
  have c1 : c < 622 := by omega
  have s1 : (zSh c.toNat).1 = 2 := by rw [hc]; exact (sh_deed (by omega) (by omega)).1
  have s2 : (zSh c.toNat).2.1 = 6 := by rw [hc]; exact (sh_deed (by omega) (by omega)).2.1
  have z0 : zrt c.toNat 0 = none := by rw [hc]; exact (sh_deed (by omega) (by omega)).2.2.1
  have z1 : zrt c.toNat 1 = none := by rw [hc]; exact (sh_deed (by omega) (by omega)).2.2.2.1
  have z2 : zrt c.toNat 2 = none := by rw [hc]; exact (sh_deed (by omega) (by omega)).2.2.2.2.1
  have z3 : zrt c.toNat 3 = none := by rw [hc]; exact (sh_deed (by omega) (by omega)).2.2.2.2.2
  have n1 : ¬ c = 0 := by omega
  have n2 : ¬ (0 : Int) = c := by omega
  have zm : zw (H 0 7 + 1) = H 0 7 + 1 := zw_lit (by omega) (by omega)
  have zl : zw (H 0 8 + 1) = H 0 8 + 1 := zw_lit (by omega) (by omega)
  have e19 : ¬ H 0 8 = 19 := by omega
  refine ⟨_, _, _, _, _, _, vm_X11_noteDeed, by simp [pcat], ?_⟩
  refine tr_lab (D := 1) (t := 0) vb_X11_noteDeed_0 _ ve_X11_noteDeed_0 ?_
  simp (maxDischargeDepth := 12) [vb_X11_noteDeed_0, wB, wI, k1, kI, kR, kL, k2, pget, parg, ppush, pcat, zw_lit, zw_m1, zw_m2, zw_m3, zNC_eq, zrow, pup_app, pget_pss, pget_psx, nlg_some, nlg_none, gv_0_6, gv_0_7, gv_0_8, pe, tg_11_6, tg_11_7, tg_11_8, tg_2_0, tg_2_1, tg_2_2, tg_2_3, zfit, zisI, sh_590, sh_0, sh_468, gD, c0, c1, s1, s2, z0, z1, z2, z3, n1, n2, zm, zl, e19]
  repeat' (with_reducible (first | (refine And.intro ?_ ?_) | intro _))
  all_goals try (refine tr_lab (D := 1) (t := 14) vb_X11_noteDeed_14 _ ve_X11_noteDeed_14 ?_; simp (maxDischargeDepth := 12) [vb_X11_noteDeed_14, wB, wI, k1, kI, kR, kL, k2, pget, parg, ppush, pcat, zw_lit, zw_m1, zw_m2, zw_m3, zNC_eq, zrow, pup_app, pget_pss, pget_psx, nlg_some, nlg_none, gv_0_6, gv_0_7, gv_0_8, pe, tg_11_6, tg_11_7, tg_11_8, tg_2_0, tg_2_1, tg_2_2, tg_2_3, zfit, zisI, sh_590, sh_0, sh_468, gD, c0, c1, s1, s2, z0, z1, z2, z3, n1, n2, zm, zl, e19])
  all_goals repeat' (with_reducible (first | (refine And.intro ?_ ?_) | intro _))
  all_goals try (refine tr_lab (D := 1) (t := 20) vb_X11_noteDeed_20 _ ve_X11_noteDeed_20 ?_; simp (maxDischargeDepth := 12) [vb_X11_noteDeed_20, wB, wI, k1, kI, kR, kL, k2, pget, parg, ppush, pcat, zw_lit, zw_m1, zw_m2, zw_m3, zNC_eq, zrow, pup_app, pget_pss, pget_psx, nlg_some, nlg_none, gv_0_6, gv_0_7, gv_0_8, pe, tg_11_6, tg_11_7, tg_11_8, tg_2_0, tg_2_1, tg_2_2, tg_2_3, zfit, zisI, sh_590, sh_0, sh_468, gD, c0, c1, s1, s2, z0, z1, z2, z3, n1, n2, zm, zl, e19])
  all_goals repeat' (with_reducible (first | (refine And.intro ?_ ?_) | intro _))
  all_goals try (refine Ca_use (ca_X11_forgetAnswers _) (by omega) ?_; rintro _ _ ⟨rfl, rfl⟩; simp (maxDischargeDepth := 12) [wB, wI, k1, kI, kR, kL, k2, pget, parg, ppush, pcat, zw_lit, zw_m1, zw_m2, zw_m3, zNC_eq, zrow, pup_app, pget_pss, pget_psx, nlg_some, nlg_none, gv_0_6, gv_0_7, gv_0_8, pe, tg_11_6, tg_11_7, tg_11_8, tg_2_0, tg_2_1, tg_2_2, tg_2_3, zfit, zisI, sh_590, sh_0, sh_468, gD, c0, c1, s1, s2, z0, z1, z2, z3, n1, n2, zm, zl, e19])
  all_goals repeat' (with_reducible (first | (refine And.intro ?_ ?_) | intro _))
  all_goals (first | omega | rfl | decide | (unfold zu; decide) | skip)

/-! ===== the class's log between calls ===== -/
def rem (H : PH) (x : Int) : Int := H (57 + 3 * x) 5
def LG (N : Int) (R : Int → Int) (H : PH) : Prop := LOK N R (lgf (ent H) (H 0 8) (H 0 7).toNat)
def SC (H H' : PH) : Prop := H' 0 7 = H 0 7 ∧ H' 0 8 = H 0 8 ∧ ∀ j, 0 ≤ j → j ≤ 19 → ent H' j = ent H j
theorem LG_same {N : Int} {R : Int → Int} {H H' : PH} (s : SC H H') (h : LG N R H) : LG N R H' := by
  unfold LG
  rw [s.1, s.2.1, lgf_congr (f := ent H) s.2.2]
  exact h
theorem LOGH_same {lv : Nat} {g : Nat → Nat → Int} {H H' : PH} (hW : WT lv g H) (s : SC H H') (h1 : H' 1 2 = H 1 2) (h2 : ∀ x, 0 ≤ x → x ≤ 11 → rem H' x = rem H x) (h : LOGH H) : LOGH H' := by
  have hb := rf_1_2 hW
  have : LG (H' 1 2) (rem H') H' := by
    rw [h1]
    exact LOK_congr (fun x a b => h2 x a (by omega)) (LG_same s h)
  exact this
theorem gv_deed {X : PH} {j : Int} (h0 : 0 ≤ j) (h1 : j ≤ 19) : gv X (469 + 6 * j) 0 = X (469 + 6 * j) 0 ∧ gv X (469 + 6 * j) 1 = X (469 + 6 * j) 1 ∧ gv X (469 + 6 * j) 2 = X (469 + 6 * j) 2 ∧ gv X (469 + 6 * j) 3 = X (469 + 6 * j) 3 := by
  have := sh_deed h0 h1
  exact ⟨gv_none this.2.2.1, gv_none this.2.2.2.1, gv_none this.2.2.2.2.1, gv_none this.2.2.2.2.2⟩
theorem sh_bill0 : ∀ l, l < 12 → (Nat.beq (zSh (57 + 3 * l)).1 0 && Nat.beq (zSh (57 + 3 * l)).2.1 8 && (zrt (57 + 3 * l) 1).isNone && (zrt (57 + 3 * l) 2).isNone && (zrt (57 + 3 * l) 3).isNone && (zrt (57 + 3 * l) 4).isNone && (zrt (57 + 3 * l) 5).isNone && Nat.beq (tau (57 + 3 * l)) 0 && (zrt (57 + 3 * l) 0).isNone && (zrt (57 + 3 * l) 6 == some (58 + 3 * (l : Int))) && (zrt (57 + 3 * l) 7 == some (59 + 3 * (l : Int))) && (zrt 46 l == some (57 + 3 * (l : Int)))) = true := by decide +kernel
theorem sh_bill {l : Nat} (h : l < 12) : (zSh (57 + 3 * l)).1 = 0 ∧ (zSh (57 + 3 * l)).2.1 = 8 ∧ zrt (57 + 3 * l) 3 = none ∧ zrt (57 + 3 * l) 4 = none ∧ zrt (57 + 3 * l) 5 = none ∧ tau (57 + 3 * l) = 0 ∧ zrt (57 + 3 * l) 6 = some (58 + 3 * (l : Int)) ∧ zrt (57 + 3 * l) 7 = some (59 + 3 * (l : Int)) ∧ zrt 46 l = some (57 + 3 * (l : Int)) := by
  have := sh_bill0 l h
  simp only [Bool.and_eq_true, beq_iff_eq] at this
  obtain ⟨⟨⟨⟨⟨⟨⟨⟨⟨⟨⟨a, b⟩, c⟩, d⟩, e⟩, f⟩, q⟩, r⟩, s⟩, t⟩, u⟩, v⟩ := this
  exact ⟨Nat.eq_of_beq_eq_true a, Nat.eq_of_beq_eq_true b, Option.isNone_iff_eq_none.mp e, Option.isNone_iff_eq_none.mp f, Option.isNone_iff_eq_none.mp q, Nat.eq_of_beq_eq_true r, t, u, v⟩
theorem billN {l : Int} (h0 : 0 ≤ l) : (57 + 3 * l).toNat = 57 + 3 * l.toNat := by omega
theorem gv_rem {X : PH} {x : Int} (h0 : 0 ≤ x) (h1 : x ≤ 11) : gv X (57 + 3 * x) 5 = rem X x := gv_none (by
  rw [billN h0]
  exact (sh_bill (l := x.toNat) (by omega)).2.2.2.2.1)
theorem SC_frm {md : List Nat} {H H' : PH} (h : frm md H H') (a : inmd md 11 7 = false) (b : inmd md 11 8 = false) (c : inmd md 2 0 = false) (d : inmd md 2 1 = false) (e : inmd md 2 2 = false) (f : inmd md 2 3 = false) : SC H H' := by
  refine ⟨h 0 7 (by decide) a, h 0 8 (by decide) b, fun j j0 j1 => ?_⟩
  have ht := (sh_deedN j.toNat (by omega)).2.2.2.2.2.2.2.2
  have ec : ((469 + 6 * j.toNat : Nat) : Int) = 469 + 6 * j := by omega
  have k : ∀ i : Int, inmd md 2 i = false → gv H' (469 + 6 * j) i = gv H (469 + 6 * j) i := fun i hi => by
    have := h (469 + 6 * j.toNat) i (by rw [ht]; decide) (by rw [ht]; exact hi)
    rw [ec] at this
    exact this
  have g1 := gv_deed (X := H) j0 j1
  have g2 := gv_deed (X := H') j0 j1
  have k0 := k 0 c
  have k1' := k 1 d
  have k2' := k 2 e
  have k3 := k 3 f
  rw [g2.1, g1.1] at k0
  rw [g2.2.1, g1.2.1] at k1'
  rw [g2.2.2.1, g1.2.2.1] at k2'
  rw [g2.2.2.2, g1.2.2.2] at k3
  unfold ent
  rw [k0, k1', k2', k3]
theorem rem_frm {md : List Nat} {H H' : PH} (h : frm md H H') (a : inmd md 0 5 = false) : ∀ x, 0 ≤ x → x ≤ 11 → rem H' x = rem H x := by
  intro x x0 x1
  have ht := (sh_bill (l := x.toNat) (by omega)).2.2.2.2.2.1
  have ec : ((57 + 3 * x.toNat : Nat) : Int) = 57 + 3 * x := by omega
  have := h (57 + 3 * x.toNat) 5 (by rw [ht]; decide) (by rw [ht]; exact a)
  rw [ec, gv_rem x0 x1, gv_rem x0 x1] at this
  exact this
/-- frozen at level 0: the log and what it stands on -/
theorem LOGH_frz {lv : Nat} {g : Nat → Nat → Int} {H H' : PH} (hW : WT lv g H) (h : WT 0 (gH H) H') (hl : LOGH H) : LOGH H' ∧ H' 213 1 = H 213 1 := by
  have f : ∀ c i : Nat, c < 622 → i < (zSh c).2.1 → fz 0 (tau c) i = true → gv H' c i = gv H c i := fun c i a b q => (h c i a b).2 q
  refine ⟨LOGH_same hW ⟨f 0 7 (by decide) (by decide +kernel) (by decide +kernel), f 0 8 (by decide) (by decide +kernel) (by decide +kernel), fun j j0 j1 => ?_⟩ (f 1 2 (by decide) (by decide +kernel) (by decide +kernel)) (fun x x0 x1 => ?_) hl, f 213 1 (by decide) (by decide +kernel) (by decide +kernel)⟩
  · have hs := sh_deedN j.toNat (by omega)
    have ec : ((469 + 6 * j.toNat : Nat) : Int) = 469 + 6 * j := by omega
    have k : ∀ i : Nat, i < 4 → gv H' (469 + 6 * j) i = gv H (469 + 6 * j) i := fun i hi => by
      have := f (469 + 6 * j.toNat) i (by omega) (by rw [hs.2.1]; omega) (by
        rw [hs.2.2.2.2.2.2.2.2]
        rcases (by omega : i = 0 ∨ i = 1 ∨ i = 2 ∨ i = 3) with rfl | rfl | rfl | rfl <;> rfl)
      rw [ec] at this
      exact this
    have g1 := gv_deed (X := H) j0 j1
    have g2 := gv_deed (X := H') j0 j1
    have k0 := k 0 (by omega)
    have k1' := k 1 (by omega)
    have k2' := k 2 (by omega)
    have k3 := k 3 (by omega)
    have e0 : ((0 : Nat) : Int) = 0 := rfl
    have e1 : ((1 : Nat) : Int) = 1 := rfl
    have e2 : ((2 : Nat) : Int) = 2 := rfl
    have e3 : ((3 : Nat) : Int) = 3 := rfl
    rw [e0, g2.1, g1.1] at k0
    rw [e1, g2.2.1, g1.2.1] at k1'
    rw [e2, g2.2.2.1, g1.2.2.1] at k2'
    rw [e3, g2.2.2.2, g1.2.2.2] at k3
    unfold ent
    rw [k0, k1', k2', k3]
  · have hs := sh_bill (l := x.toNat) (by omega)
    have ec : ((57 + 3 * x.toNat : Nat) : Int) = 57 + 3 * x := by omega
    have := f (57 + 3 * x.toNat) 5 (by omega) (by rw [hs.2.1]; omega) (by rw [hs.2.2.2.2.2.1]; rfl)
    rw [ec] at this
    have e5 : ((5 : Nat) : Int) = 5 := rfl
    rw [e5, gv_rem x0 x1, gv_rem x0 x1] at this
    exact this
theorem w2_0_7 {g : Nat → Nat → Int} {H : PH} {v : Int} (h : WT 2 g H) (h1 : 0 ≤ v) (h2 : v ≤ 20) : WT 2 g (pup H 0 7 v) := WT_wf (c := 0) (i := 7) (lo := 0) (hi := 20) h (by decide +kernel) (by decide +kernel) h1 h2
theorem w2_0_8 {g : Nat → Nat → Int} {H : PH} {v : Int} (h : WT 2 g H) (h1 : 0 ≤ v) (h2 : v ≤ 19) : WT 2 g (pup H 0 8 v) := WT_wf (c := 0) (i := 8) (lo := 0) (hi := 19) h (by decide +kernel) (by decide +kernel) h1 h2
theorem w2_deed {g : Nat → Nat → Int} {H : PH} {l v : Int} (i : Nat) (hi : i < 4) (h : WT 2 g H) (l0 : 0 ≤ l) (l1 : l ≤ 19) (h1 : -2147483648 ≤ v) (h2 : v ≤ 2147483647) : WT 2 g (pup H (469 + 6 * l) i v) := by
  have hs := sh_deedN l.toNat (by omega)
  have ec : ((469 + 6 * l.toNat : Nat) : Int) = 469 + 6 * l := by omega
  have := WT_up (c := 469 + 6 * l.toNat) (i := i) (v := v) h (by
    rcases (by omega : i = 0 ∨ i = 1 ∨ i = 2 ∨ i = 3) with rfl | rfl | rfl | rfl
    · exact hs.2.2.1
    · exact hs.2.2.2.1
    · exact hs.2.2.2.2.1
    · exact hs.2.2.2.2.2.1) (by
    rw [hs.2.2.2.2.2.2.2.2]
    rcases (by omega : i = 0 ∨ i = 1 ∨ i = 2 ∨ i = 3) with rfl | rfl | rfl | rfl <;> exact vin h1 h2) rfl
  rw [ec] at this
  exact this
theorem fr_deed {md : List Nat} {H0 H : PH} {l v : Int} (i : Nat) (hi : i < 4) (h : frm md H0 H) (l0 : 0 ≤ l) (l1 : l ≤ 19) (hm : inmd md 2 i = true) : frm md H0 (pup H (469 + 6 * l) i v) := by
  have hs := sh_deedN l.toNat (by omega)
  have ec : ((469 + 6 * l.toNat : Nat) : Int) = 469 + 6 * l := by omega
  have := frm_up (c := 469 + 6 * l.toNat) (i := i) (v := v) h (by
    rw [Int.toNat_natCast]
    rcases (by omega : i = 0 ∨ i = 1 ∨ i = 2 ∨ i = 3) with rfl | rfl | rfl | rfl
    · exact hs.2.2.1
    · exact hs.2.2.2.1
    · exact hs.2.2.2.2.1
    · exact hs.2.2.2.2.2.1) (by rw [hs.2.2.2.2.2.2.2.2]; exact hm)
  rw [ec] at this
  exact this
def ndH (H : PH) (l m k a b d : Int) : PH := pup (pup (pup (pup (pup (pup (pup (pup (pup H 0 8 l) 0 7 m) (469 + 6 * l) 0 k) (469 + 6 * l) 1 a) (469 + 6 * l) 2 b) (469 + 6 * l) 3 d) 215 1 0) 221 2 0) 372 2 0
theorem ndH_app {H : PH} {l m k a b d c i : Int} (hc : c = 0 → i ≠ 7 ∧ i ≠ 8) (hd : c ≠ 469 + 6 * l) (h1 : c ≠ 215) (h2 : c ≠ 221) (h3 : c ≠ 372) : ndH H l m k a b d c i = H c i := by
  unfold ndH
  rw [pup_row h3, pup_row h2, pup_row h1, pup_row hd, pup_row hd, pup_row hd, pup_row hd]
  have e1 : pup (pup H 0 8 l) 0 7 m c i = pup H 0 8 l c i := if_neg (fun q => by have := hc q.1; omega)
  have e2 : pup H 0 8 l c i = H c i := if_neg (fun q => by have := hc q.1; omega)
  rw [e1, e2]
theorem ndH_log {H : PH} {l m k a b d : Int} (h0 : 0 ≤ H 0 8) (h1 : H 0 8 ≤ 19) (h2 : 0 ≤ H 0 7) (h3 : H 0 7 ≤ 20) (hl : l = if H 0 8 = 19 then 0 else H 0 8 + 1) (hm : m = if H 0 7 + 1 < 20 then H 0 7 + 1 else 20) : lgf (ent (ndH H l m k a b d)) (ndH H l m k a b d 0 8) (ndH H l m k a b d 0 7).toNat = (k, a, b, d) :: (lgf (ent H) (H 0 8) (H 0 7).toNat).take 19 := by
  have l0 : 0 ≤ l ∧ l ≤ 19 := by
    rw [hl]
    split <;> omega
  have n1 : ∀ x : Int, (0 : Int) ≠ 469 + 6 * l := fun _ => by omega
  have e8 : ndH H l m k a b d 0 8 = l := by
    unfold ndH
    rw [pup_row (by decide), pup_row (by decide), pup_row (by decide), pup_row (n1 0), pup_row (n1 0), pup_row (n1 0), pup_row (n1 0)]
    rfl
  have e7 : ndH H l m k a b d 0 7 = m := by
    unfold ndH
    rw [pup_row (by decide), pup_row (by decide), pup_row (by decide), pup_row (n1 0), pup_row (n1 0), pup_row (n1 0), pup_row (n1 0)]
    rfl
  rw [e8, e7]
  refine lgf_push h0 h1 hl (m := (H 0 7).toNat) (by omega) ?_ ?_ ?_
  · rw [hm]
    split <;> omega
  · have a1 : (469 + 6 * l) ≠ 215 := by omega
    have a2 : (469 + 6 * l) ≠ 221 := by omega
    have a3 : (469 + 6 * l) ≠ 372 := by omega
    unfold ent ndH
    rw [pup_row a3, pup_row a2, pup_row a1]
    simp [pup_app]
  · intro j j0 j1 jn
    unfold ent
    have hne : 469 + 6 * j ≠ 469 + 6 * l := by omega
    rw [ndH_app (by omega) hne (by omega) (by omega) (by omega), ndH_app (by omega) hne (by omega) (by omega) (by omega), ndH_app (by omega) hne (by omega) (by omega) (by omega), ndH_app (by omega) hne (by omega) (by omega) (by omega)]
theorem ca_note {G : zG} {us : Nat} {g : Nat → Nat → Int} (k a b d : Int) (H : PH) (hW : WT 2 g H) (hk : -2147483648 ≤ k ∧ k ≤ 2147483647) (ha : -2147483648 ≤ a ∧ a ≤ 2147483647) (hb : -2147483648 ≤ b ∧ b ≤ 2147483647) (hd : -2147483648 ≤ d ∧ d ≤ 2147483647) : Ca G us 2 154 [(2, 0), (0, k), (0, a), (0, b), (0, d)] H (fun r H' => ∃ l, 0 ≤ l ∧ l ≤ 19 ∧ r = some (2, 469 + 6 * l) ∧ WT 2 g H' ∧ (∀ X : PH, frm [0, 1, 2, 3, 5, 6, 9, 11, 34, 35, 36, 37, 38, 39, 40, 41, 42, 43, 44, 45, 46, 47, 48, 49, 50, 51, 53, 54, 55, 56, 57, 58, 59, 60, 61, 62, 63, 64, 65, 66, 67, 68, 69, 70, 71, 72, 73, 74, 75, 76, 77] X H → frm [0, 1, 2, 3, 5, 6, 9, 11, 34, 35, 36, 37, 38, 39, 40, 41, 42, 43, 44, 45, 46, 47, 48, 49, 50, 51, 53, 54, 55, 56, 57, 58, 59, 60, 61, 62, 63, 64, 65, 66, 67, 68, 69, 70, 71, 72, 73, 74, 75, 76, 77] X H') ∧ (∀ c i : Int, 1 ≤ c → c < 215 → H' c i = H c i) ∧ ∀ N R, LOK N R ((k, a, b, d) :: (lgf (ent H) (H 0 8) (H 0 7).toNat).take 19) → LG N R H') := by
  have h7 := rf_0_7 hW
  have h8 := rf_0_8 hW
  have key : ∀ l m : Int, (l = if H 0 8 = 19 then 0 else H 0 8 + 1) → (m = if H 0 7 + 1 < 20 then H 0 7 + 1 else 20) → 0 ≤ l ∧ l ≤ 19 ∧ WT 2 g (ndH H l m k a b d) ∧ (∀ X : PH, frm [0, 1, 2, 3, 5, 6, 9, 11, 34, 35, 36, 37, 38, 39, 40, 41, 42, 43, 44, 45, 46, 47, 48, 49, 50, 51, 53, 54, 55, 56, 57, 58, 59, 60, 61, 62, 63, 64, 65, 66, 67, 68, 69, 70, 71, 72, 73, 74, 75, 76, 77] X H → frm [0, 1, 2, 3, 5, 6, 9, 11, 34, 35, 36, 37, 38, 39, 40, 41, 42, 43, 44, 45, 46, 47, 48, 49, 50, 51, 53, 54, 55, 56, 57, 58, 59, 60, 61, 62, 63, 64, 65, 66, 67, 68, 69, 70, 71, 72, 73, 74, 75, 76, 77] X (ndH H l m k a b d)) ∧ (∀ c i : Int, 1 ≤ c → c < 215 → ndH H l m k a b d c i = H c i) ∧ ∀ N R, LOK N R ((k, a, b, d) :: (lgf (ent H) (H 0 8) (H 0 7).toNat).take 19) → LG N R (ndH H l m k a b d) := by
    intro l m hl hm
    have l0 : 0 ≤ l ∧ l ≤ 19 := by
      rw [hl]
      split <;> omega
    have m0 : 0 ≤ m ∧ m ≤ 20 := by
      rw [hm]
      split <;> omega
    refine ⟨l0.1, l0.2, ?_, fun X hX => ?_, fun c i c0 c1 => ndH_app (by omega) (by omega) (by omega) (by omega) (by omega), fun N R h => ?_⟩
    · exact wf_372_2 (wf_221_2 (wf_215_1 (w2_deed 3 (by decide) (w2_deed 2 (by decide) (w2_deed 1 (by decide) (w2_deed 0 (by decide) (w2_0_7 (w2_0_8 hW l0.1 l0.2) m0.1 m0.2) l0.1 l0.2 hk.1 hk.2) l0.1 l0.2 ha.1 ha.2) l0.1 l0.2 hb.1 hb.2) l0.1 l0.2 hd.1 hd.2) (by decide) (by decide)) (by decide) (by decide)) (by decide) (by decide)
    · exact ff_372_2 (ff_221_2 (ff_215_1 (fr_deed 3 (by decide) (fr_deed 2 (by decide) (fr_deed 1 (by decide) (fr_deed 0 (by decide) (ff_0_7 (ff_0_8 hX rfl) rfl) l0.1 l0.2 rfl) l0.1 l0.2 rfl) l0.1 l0.2 rfl) l0.1 l0.2 rfl) rfl) rfl) rfl
    · unfold LG
      rw [ndH_log h8.1 h8.2 h7.1 h7.2 hl hm]
      exact h
  by_cases e : H 0 8 = 19
  · refine Ca_mono (Nat.le_refl _) ?_ (ca_X11_noteDeed_a k a b d H e h7.1 h7.2)
    rintro r H' ⟨c, hr, hc, rfl⟩
    subst hc
    obtain ⟨q1, q2, q3⟩ := key 0 _ (by rw [if_pos e]) rfl
    exact ⟨0, q1, q2, hr, q3⟩
  · refine Ca_mono (Nat.le_refl _) ?_ (ca_X11_noteDeed_b k a b d H h8.1 (by omega) h7.1 h7.2)
    rintro r H' ⟨c, hr, hc, rfl⟩
    subst hc
    obtain ⟨q1, q2, q3⟩ := key (H 0 8 + 1) _ (by rw [if_neg e]) rfl
    exact ⟨H 0 8 + 1, q1, q2, hr, q3⟩
/-- a deed that leaves bills and remarks alone -/
def plain (k a : Int) : Prop := k ≠ 0 ∧ k ≠ 2 ∧ (k = 5 → 0 ≤ a ∧ a ≤ 24) ∧ ((k = 3 ∨ ¬ (0 ≤ k ∧ k ≤ 9)) → 0 ≤ a ∧ a ≤ 11) ∧ (k = 7 → 0 ≤ a ∧ a ≤ 59)
theorem ca_noteP {G : zG} {us : Nat} {g : Nat → Nat → Int} (k a b d : Int) (H : PH) (hW : WT 2 g H) (hL : LOGH H) (hM : IM H) (hk : -2147483648 ≤ k ∧ k ≤ 2147483647) (ha : -2147483648 ≤ a ∧ a ≤ 2147483647) (hb : -2147483648 ≤ b ∧ b ≤ 2147483647) (hd : -2147483648 ≤ d ∧ d ≤ 2147483647) (hp : plain k a) : Ca G us 2 154 [(2, 0), (0, k), (0, a), (0, b), (0, d)] H (fun r H' => ∃ l, 0 ≤ l ∧ l ≤ 19 ∧ r = some (2, 469 + 6 * l) ∧ WT 2 g H' ∧ (∀ X : PH, frm [0, 1, 2, 3, 5, 6, 9, 11, 34, 35, 36, 37, 38, 39, 40, 41, 42, 43, 44, 45, 46, 47, 48, 49, 50, 51, 53, 54, 55, 56, 57, 58, 59, 60, 61, 62, 63, 64, 65, 66, 67, 68, 69, 70, 71, 72, 73, 74, 75, 76, 77] X H → frm [0, 1, 2, 3, 5, 6, 9, 11, 34, 35, 36, 37, 38, 39, 40, 41, 42, 43, 44, 45, 46, 47, 48, 49, 50, 51, 53, 54, 55, 56, 57, 58, 59, 60, 61, 62, 63, 64, 65, 66, 67, 68, 69, 70, 71, 72, 73, 74, 75, 76, 77] X H') ∧ (∀ c i : Int, 1 ≤ c → c < 215 → H' c i = H c i) ∧ LOGH H' ∧ IM H') := by
  refine Ca_mono (Nat.le_refl _) ?_ (ca_note k a b d H hW hk ha hb hd)
  rintro r H' ⟨l, l0, l1, hr, hW', hF', hA', hG'⟩
  have hI : IM H' := IM_same hW (SM_frm (hF' H (frm_refl _ _)) rfl rfl rfl rfl) hM
  refine ⟨l, l0, l1, hr, hW', hF', hA', ?_, hI⟩
  have e1 : H' 1 2 = H 1 2 := hA' 1 2 (by decide) (by decide)
  have hbn := rf_1_2 hW
  have h1 : LG (H 1 2) (rem H) H' := hG' _ _ (by
    obtain ⟨p1, p2, p3, p4, p5⟩ := hp
    unfold LOK
    rw [if_neg p1, if_neg p2]
    exact ⟨⟨p3, p4, p5⟩, LOK_take 19 hL⟩)
  have h2 : LG (H' 1 2) (rem H') H' := by
    rw [e1]
    exact LOK_congr (fun x x0 x1 => hA' (57 + 3 * x) 5 (by omega) (by omega)) h1
  exact h2

