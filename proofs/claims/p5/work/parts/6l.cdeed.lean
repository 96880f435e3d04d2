theorem sh_rows0 : ∀ l, l < 12 → (Nat.beq (zSh (58 + 3 * l)).1 16 && Nat.beq (zSh (58 + 3 * l)).2.1 6 && Nat.beq (tau (58 + 3 * l)) 49 && Nat.beq (zSh (59 + 3 * l)).1 16 && Nat.beq (zSh (59 + 3 * l)).2.1 6 && Nat.beq (tau (59 + 3 * l)) 50) = true := by decide +kernel
theorem sh_rows {l : Nat} (h : l < 12) : (zSh (58 + 3 * l)).1 = 16 ∧ (zSh (58 + 3 * l)).2.1 = 6 ∧ tau (58 + 3 * l) = 49 ∧ (zSh (59 + 3 * l)).1 = 16 ∧ (zSh (59 + 3 * l)).2.1 = 6 ∧ tau (59 + 3 * l) = 50 := by
  have := sh_rows0 l h
  simp only [Bool.and_eq_true] at this
  obtain ⟨⟨⟨⟨⟨a, b⟩, c⟩, d⟩, e⟩, f⟩ := this
  exact ⟨Nat.eq_of_beq_eq_true a, Nat.eq_of_beq_eq_true b, Nat.eq_of_beq_eq_true c, Nat.eq_of_beq_eq_true d, Nat.eq_of_beq_eq_true e, Nat.eq_of_beq_eq_true f⟩
theorem gv_b67 {X : PH} {b : Int} (b0 : 0 ≤ b) (b1 : b ≤ 11) : gv X (57 + 3 * b) 6 = 58 + 3 * b ∧ gv X (57 + 3 * b) 7 = 59 + 3 * b := by
  have hs := sh_bill (l := b.toNat) (by omega)
  have e : ((b.toNat : Nat) : Int) = b := by omega
  constructor
  · unfold gv
    rw [billN b0, show ((6 : Int)).toNat = 6 from rfl, hs.2.2.2.2.2.2.1]
    show 58 + 3 * ((b.toNat : Nat) : Int) = _
    omega
  · unfold gv
    rw [billN b0, show ((7 : Int)).toNat = 7 from rfl, hs.2.2.2.2.2.2.2.1]
    show 59 + 3 * ((b.toNat : Nat) : Int) = _
    omega
theorem w2_rem {g : Nat → Nat → Int} {H : PH} {b m v w : Int} (hW : WT 2 g H) (b0 : 0 ≤ b) (b1 : b ≤ 11) (m0 : 0 ≤ m) (m1 : m ≤ 5) (v1 : -2147483648 ≤ v) (v2 : v ≤ 2147483647) (w1 : -2147483648 ≤ w) (w2 : w ≤ 2147483647) : WT 2 g (pup (pup (pup H (58 + 3 * b) m v) (59 + 3 * b) m w) (57 + 3 * b) 5 (m + 1)) := by
  have hs := sh_bill (l := b.toNat) (by omega)
  have hr := sh_rows (l := b.toNat) (by omega)
  have em : ((m.toNat : Nat) : Int) = m := by omega
  have e7 : ((57 + 3 * b.toNat : Nat) : Int) = 57 + 3 * b := by omega
  have e8 : ((58 + 3 * b.toNat : Nat) : Int) = 58 + 3 * b := by omega
  have e9 : ((59 + 3 * b.toNat : Nat) : Int) = 59 + 3 * b := by omega
  have h1 : WT 2 g (pup H (58 + 3 * b) m v) := by
    have := WT_up (c := 58 + 3 * b.toNat) (i := m.toNat) (v := v) hW (zrt_row (by omega) (by rw [hr.1]; decide)) (by rw [hr.2.2.1]; exact vin v1 v2) rfl
    rw [e8, em] at this
    exact this
  have h2 : WT 2 g (pup (pup H (58 + 3 * b) m v) (59 + 3 * b) m w) := by
    have := WT_up (c := 59 + 3 * b.toNat) (i := m.toNat) (v := w) h1 (zrt_row (by omega) (by rw [hr.2.2.2.1]; decide)) (by rw [hr.2.2.2.2.2]; exact vin w1 w2) rfl
    rw [e9, em] at this
    exact this
  have := WT_up (c := 57 + 3 * b.toNat) (i := 5) (v := m + 1) h2 hs.2.2.2.2.1 (by rw [hs.2.2.2.2.2.1]; exact vin (lo := 0) (hi := 6) (by omega) (by omega)) rfl
  rw [e7] at this
  exact this
theorem fr_rem {md : List Nat} {H0 H : PH} {b m v w x : Int} (h : frm md H0 H) (b0 : 0 ≤ b) (b1 : b ≤ 11) (h49 : inmdT md 49 = true) (h50 : inmdT md 50 = true) (h0 : inmd md 0 5 = true) : frm md H0 (pup (pup (pup H (58 + 3 * b) m v) (59 + 3 * b) m w) (57 + 3 * b) 5 x) := by
  have hr := sh_rows (l := b.toNat) (by omega)
  have e8 : ((58 + 3 * b.toNat : Nat) : Int) = 58 + 3 * b := by omega
  have e9 : ((59 + 3 * b.toNat : Nat) : Int) = 59 + 3 * b := by omega
  have h1 : frm md H0 (pup H (58 + 3 * b) m v) := by
    have := frm_up (c := 58 + 3 * b.toNat) (i := m) (v := v) h (zrt_row (by omega) (by rw [hr.1]; decide)) (by rw [hr.2.2.1]; exact inmd_T h49 _)
    rw [e8] at this
    exact this
  have h2 : frm md H0 (pup (pup H (58 + 3 * b) m v) (59 + 3 * b) m w) := by
    have := frm_up (c := 59 + 3 * b.toNat) (i := m) (v := w) h1 (zrt_row (by omega) (by rw [hr.2.2.2.1]; decide)) (by rw [hr.2.2.2.2.2]; exact inmd_T h50 _)
    rw [e9] at this
    exact this
  exact fr_bill 5 (by omega) h2 b0 b1 h0
theorem rd_rem5 {lv : Nat} {g : Nat → Nat → Int} {H : PH} {b : Int} (h : WT lv g H) (b0 : 0 ≤ b) (b1 : b ≤ 11) : 0 ≤ rem H b ∧ rem H b ≤ 6 := by
  have hs := sh_bill (l := b.toNat) (by omega)
  have ec : ((57 + 3 * b.toNat : Nat) : Int) = 57 + 3 * b := by omega
  have := (h (57 + 3 * b.toNat) 5 (by omega) (by rw [hs.2.1]; omega)).1
  rw [hs.2.2.2.2.2.1, ec] at this
  have e5 : ((5 : Nat) : Int) = 5 := rfl
  rw [e5, gv_rem b0 b1] at this
  exact ⟨(this.2.1 rfl).1, (this.2.1 rfl).2.1⟩
theorem rem_log {g : Nat → Nat → Int} {H H2 : PH} {b m v w : Int} (hW : WT 2 g H) (hL : LOGH H) (b0 : 0 ≤ b) (b1 : b < H 1 2) (hm : rem H b = m) (m0 : 0 ≤ m) (hA : ∀ c i : Int, 1 ≤ c → c < 215 → H2 c i = H c i) (hG : ∀ N R, LOK N R ((2, b, 0, 0) :: (lgf (ent H) (H 0 8) (H 0 7).toNat).take 19) → LG N R H2) : LOGH (pup (pup (pup H2 (58 + 3 * b) m v) (59 + 3 * b) m w) (57 + 3 * b) 5 (m + 1)) := by
  have hb := rf_1_2 hW
  obtain ⟨H', hH⟩ : ∃ X, X = pup (pup (pup H2 (58 + 3 * b) m v) (59 + 3 * b) m w) (57 + 3 * b) 5 (m + 1) := ⟨_, rfl⟩
  rw [← hH]
  have row : ∀ c : Int, c ≠ 58 + 3 * b → c ≠ 59 + 3 * b → ∀ i : Int, ¬ (c = 57 + 3 * b ∧ i = 5) → H' c i = H2 c i := by
    intro c c1 c2 i ci
    rw [hH]
    have : pup (pup (pup H2 (58 + 3 * b) m v) (59 + 3 * b) m w) (57 + 3 * b) 5 (m + 1) c i = pup (pup H2 (58 + 3 * b) m v) (59 + 3 * b) m w c i := if_neg ci
    rw [this, pup_row c2, pup_row c1]
  have eb : rem H' b = m + 1 := by
    unfold rem
    rw [hH]
    exact if_pos ⟨rfl, rfl⟩
  have ex : ∀ x, 0 ≤ x → x ≤ 11 → x ≠ b → rem H' x = rem H x := by
    intro x x0 x1 xb
    unfold rem
    rw [row _ (by omega) (by omega) 5 (by omega)]
    exact hA _ _ (by omega) (by omega)
  have hs : SC H2 H' := by
    refine ⟨row 0 (by omega) (by omega) 7 (by omega), row 0 (by omega) (by omega) 8 (by omega), fun j j0 j1 => ?_⟩
    unfold ent
    rw [row _ (by omega) (by omega) 0 (by omega), row _ (by omega) (by omega) 1 (by omega), row _ (by omega) (by omega) 2 (by omega), row _ (by omega) (by omega) 3 (by omega)]
  have e1 : H' 1 2 = H 1 2 := (row 1 (by omega) (by omega) 2 (by omega)).trans (hA 1 2 (by decide) (by decide))
  have : LG (H' 1 2) (rem H') H' := by
    rw [e1]
    refine LG_same hs (hG _ _ ?_)
    unfold LOK
    rw [if_neg (show ¬ (2 : Int) = 0 by decide), if_pos (show (2 : Int) = 2 from rfl)]
    refine ⟨⟨b0, b1, by show b ≤ 11; omega, by show 1 ≤ rem H' b; omega⟩, LOK_congr (R := rem H) (fun x x0 x1 => ?_) (LOK_take 19 hL)⟩
    unfold dec1
    by_cases c : x = b
    · rw [if_pos c, c]
      show rem H' b - 1 = rem H b
      omega
    · rw [if_neg c]
      exact ex x x0 (by omega) c
  exact this
theorem IM_rem {H : PH} {b m v w x : Int} (h : IM H) (b1 : b ≤ 11) : IM (pup (pup (pup H (58 + 3 * b) m v) (59 + 3 * b) m w) (57 + 3 * b) 5 x) := IM_pup (IM_pup (IM_pup h (by omega)) (by omega)) (by omega)

set_option maxRecDepth 20000 in
set_option maxHeartbeats 4000000 in
theorem ca_X0_addRemark {G : zG} {us : Nat} (c d1 d2 m k n : Int) (H : PH) (c0 : 0 ≤ c) (c1 : c < 600) (hd1 : d1 = c + 1) (hd2 : d2 = c + 2) (s1 : (zSh c.toNat).1 = 0) (s2 : (zSh c.toNat).2.1 = 8) (s3 : (zSh d1.toNat).1 = 16) (s4 : (zSh d1.toNat).2.1 = 6) (s5 : (zSh d2.toNat).1 = 16) (s6 : (zSh d2.toNat).2.1 = 6) (y5 : zrt c.toNat 5 = none) (u5 : ∀ X : PH, gv X c 5 = X c 5) (u6 : ∀ X : PH, gv X c 6 = d1) (u7 : ∀ X : PH, gv X c 7 = d2) (hm : H c 5 = m) (m0 : 0 ≤ m) (m1 : m ≤ 5) : Ca G us 1 2 [(2, c), (0, k), (0, n)] H (fun r H' => r = none ∧ H' = pup (pup (pup H d1 m k) d2 m n) c 5 (m + 1)) := by
  have e1 : d1 = c + 1 := by omega
  have e2 : d2 = c + 2 := by omega
  have q1 : ¬ c = d1 := by omega
  have q2 : ¬ c = d2 := by omega
  have zm : zw (m + 1) = m + 1 := zw_lit (by omega) (by omega)
  refine ⟨_, _, _, _, _, _, vm_X0_addRemark, by simp [pcat], ?_⟩
  refine tr_lab (D := 0) (t := 0) vb_X0_addRemark_0 _ ve_X0_addRemark_0 ?_
  simp (maxDischargeDepth := 12) [vb_X0_addRemark_0, wB, wI, k1, kI, kR, kL, k2, pget, parg, ppush, pcat, zw_lit, zw_m1, zw_m2, zw_m3, zNC_eq, zrow, pup_app, pget_pss, pget_psx, nlg_some, nlg_none, pe, tg_0_5, tg_0_6, tg_0_7, zfit, zisI, sh_590, c0, s1, s2, s3, s4, s5, s6, y5, u5, u6, u7, hm, q1, q2, zm]
  repeat' (with_reducible (first | (refine And.intro ?_ ?_) | intro _))
  all_goals try (refine tr_lab (D := 0) (t := 39) vb_X0_addRemark_39 _ ve_X0_addRemark_39 ?_; simp (maxDischargeDepth := 12) [vb_X0_addRemark_39, wB, wI, k1, kI, kR, kL, k2, pget, parg, ppush, pcat, zw_lit, zw_m1, zw_m2, zw_m3, zNC_eq, zrow, pup_app, pget_pss, pget_psx, nlg_some, nlg_none, pe, tg_0_5, tg_0_6, tg_0_7, zfit, zisI, sh_590, c0, s1, s2, s3, s4, s5, s6, y5, u5, u6, u7, hm, q1, q2, zm])
  all_goals repeat' (with_reducible (first | (refine And.intro ?_ ?_) | intro _))
  all_goals (first | omega | rfl | decide | skip)

set_option maxRecDepth 20000 in
set_option maxHeartbeats 4000000 in
theorem sg_X11_remark_30 {G : zG} {us : Nat} {g : Nat → Nat → Int} (H0 : PH) (b : Int) (b0 : 0 ≤ b) (b1 : b ≤ 11) (k n : Int) (n0 : 0 ≤ n) (n9 : n ≤ 999) (x0 : 0 ≤ k) (x1 : k ≤ 3)  : ∀ (ls : PL) (H : PH), pget ls 0 = some (2, 0) → pget ls 1 = some (0, b) → pget ls 2 = some (0, k) → pget ls 3 = some (0, n) → b < H 1 2 → WT 2 g H → LOGH H → IM H → frm [0, 1, 2, 3, 5, 6, 9, 11, 34, 35, 36, 37, 38, 39, 40, 41, 42, 43, 44, 45, 46, 47, 48, 49, 50, 51, 53, 54, 55, 56, 57, 58, 59, 60, 61, 62, 63, 64, 65, 66, 67, 68, 69, 70, 71, 72, 73, 74, 75, 76, 77] H0 H → Tr G us kd_X11_remark 3 (zget kd_X11_remark 30) 30 ls [] H (fun r H' => (∃ x, r = some (0, x)) ∧ WT 2 g H' ∧ frm [0, 1, 2, 3, 5, 6, 9, 11, 34, 35, 36, 37, 38, 39, 40, 41, 42, 43, 44, 45, 46, 47, 48, 49, 50, 51, 53, 54, 55, 56, 57, 58, 59, 60, 61, 62, 63, 64, 65, 66, 67, 68, 69, 70, 71, 72, 73, 74, 75, 76, 77] H0 H' ∧ LOGH H' ∧ IM H') := by
  intro ls H  l0 l1 l2 l3 hb hW hL hM hF
  obtain ⟨c, hc⟩ : ∃ c : Int, c = 57 + 3 * b := ⟨_, rfl⟩
  have gB : ∀ X : PH, gv X 46 b = c := fun X => by rw [hc]; exact gv_46 b0 b1
  have hs := sh_bill (l := b.toNat) (by omega)
  have eN : c.toNat = 57 + 3 * b.toNat := by omega
  have c0 : 0 ≤ c := by omega
  have c1 : c < 622 := by omega
  have s1 : (zSh c.toNat).1 = 0 := by rw [eN]; exact hs.1
  have s2 : (zSh c.toNat).2.1 = 8 := by rw [eN]; exact hs.2.1
  have y3 : zrt c.toNat 3 = none := by rw [eN]; exact hs.2.2.1
  have y4 : zrt c.toNat 4 = none := by rw [eN]; exact hs.2.2.2.1
  have y5 : zrt c.toNat 5 = none := by rw [eN]; exact hs.2.2.2.2.1
  have u3 : ∀ X : PH, gv X c 3 = X c 3 := fun X => gv_none y3
  have u4 : ∀ X : PH, gv X c 4 = X c 4 := fun X => gv_none y4
  have u5 : ∀ X : PH, gv X c 5 = X c 5 := fun X => gv_none y5
  have n1 : ¬ c = 0 := by omega
  have n2 : ¬ (0 : Int) = c := by omega
  have n3 : ¬ c = 1 := by omega
  have n4 : ¬ (1 : Int) = c := by omega
  have hr := sh_rows (l := b.toNat) (by omega)
  have eN1 : (58 + 3 * b).toNat = 58 + 3 * b.toNat := by omega
  have eN2 : (59 + 3 * b).toNat = 59 + 3 * b.toNat := by omega
  have s3 : (zSh (58 + 3 * b).toNat).1 = 16 := by rw [eN1]; exact hr.1
  have s4 : (zSh (58 + 3 * b).toNat).2.1 = 6 := by rw [eN1]; exact hr.2.1
  have s5 : (zSh (59 + 3 * b).toNat).1 = 16 := by rw [eN2]; exact hr.2.2.2.1
  have s6 : (zSh (59 + 3 * b).toNat).2.1 = 6 := by rw [eN2]; exact hr.2.2.2.2.1
  have u6 : ∀ X : PH, gv X c 6 = 58 + 3 * b := fun X => by rw [hc]; exact (gv_b67 b0 b1).1
  have u7 : ∀ X : PH, gv X c 7 = 59 + 3 * b := fun X => by rw [hc]; exact (gv_b67 b0 b1).2
  have hm0 := rd_rem5 hW b0 b1
  obtain ⟨m, hm⟩ : ∃ m, H c 5 = m := ⟨_, rfl⟩
  have hmr : rem H b = m := by rw [← hm, hc]; rfl
  have m0 : 0 ≤ m := by omega
  refine tr_lab (D := 2) (t := 30) vb_X11_remark_30 _ ve_X11_remark_30 ?_
  simp (maxDischargeDepth := 12) [vb_X11_remark_30, wB, wI, k1, kI, kR, kL, k2, pget, parg, ppush, pcat, zw_lit, zw_m1, zw_m2, zw_m3, zNC_eq, zrow, pup_app, pget_pss, pget_psx, nlg_some, nlg_none, gv_0_0, gv_1_1, tg_0_5, tg_11_0, tg_1_1, sh_590, sh_0, sh_1, sh_46, gB, c0, c1, s1, s2, y3, y4, y5, u3, u4, u5, n1, n2, n3, n4, hm, l0, l1, l2, l3]
  repeat' (with_reducible (first | (refine And.intro ?_ ?_) | intro _))
  all_goals try (refine tr_lab (D := 2) (t := 53) vb_X11_remark_53 _ ve_X11_remark_53 ?_; simp (maxDischargeDepth := 12) [vb_X11_remark_53, wB, wI, k1, kI, kR, kL, k2, pget, parg, ppush, pcat, zw_lit, zw_m1, zw_m2, zw_m3, zNC_eq, zrow, pup_app, pget_pss, pget_psx, nlg_some, nlg_none, gv_0_0, gv_1_1, tg_0_5, tg_11_0, tg_1_1, sh_590, sh_0, sh_1, sh_46, gB, c0, c1, s1, s2, y3, y4, y5, u3, u4, u5, n1, n2, n3, n4, hm, l0, l1, l2, l3])
  all_goals repeat' (with_reducible (first | (refine And.intro ?_ ?_) | intro _))
  all_goals try (refine Ca_use (ca_note _ _ _ _ _ (by assumption) (by omega) (by omega) (by omega) (by omega)) (by omega) ?_; rintro _ _ ⟨l, l0, l1, rfl, hW2, hF2, hA2, hG2⟩; simp (maxDischargeDepth := 12) [wB, wI, k1, kI, kR, kL, k2, pget, parg, ppush, pcat, zw_lit, zw_m1, zw_m2, zw_m3, zNC_eq, zrow, pup_app, pget_pss, pget_psx, nlg_some, nlg_none, gv_0_0, gv_1_1, tg_0_5, tg_11_0, tg_1_1, sh_590, sh_0, sh_1, sh_46, gB, c0, c1, s1, s2, y3, y4, y5, u3, u4, u5, n1, n2, n3, n4, hm, l0, l1, l2, l3])
  all_goals repeat' (with_reducible (first | (refine And.intro ?_ ?_) | intro _))
  all_goals try (refine Ca_use (ca_X0_addRemark c (58 + 3 * b) (59 + 3 * b) m _ _ _ c0 (by omega) (by omega) (by omega) s1 s2 s3 s4 s5 s6 y5 u5 u6 u7 (by rw [hA2 _ _ (by omega) (by omega)]; exact hm) m0 (by omega)) (by omega) ?_; rintro _ _ ⟨rfl, rfl⟩; simp (maxDischargeDepth := 12) [wB, wI, k1, kI, kR, kL, k2, pget, parg, ppush, pcat, zw_lit, zw_m1, zw_m2, zw_m3, zNC_eq, zrow, pup_app, pget_pss, pget_psx, nlg_some, nlg_none, gv_0_0, gv_1_1, tg_0_5, tg_11_0, tg_1_1, sh_590, sh_0, sh_1, sh_46, gB, c0, c1, s1, s2, y3, y4, y5, u3, u4, u5, n1, n2, n3, n4, hm, l0, l1, l2, l3])
  all_goals repeat' (with_reducible (first | (refine And.intro ?_ ?_) | intro _))
  all_goals (first | omega | assumption | (exact ⟨_, rfl⟩) | (subst hc; exact w2_rem hW2 b0 b1 m0 (by omega) (by omega) (by omega) (by omega) (by omega)) | (subst hc; exact fr_rem (hF2 _ hF) b0 b1 rfl rfl rfl) | (subst hc; exact rem_log hW hL b0 hb hmr m0 hA2 hG2) | (subst hc; exact IM_rem (IM_same hW (SM_frm (hF2 H (frm_refl _ _)) rfl rfl rfl rfl) hM) b1) | decide | skip)

set_option maxRecDepth 20000 in
set_option maxHeartbeats 4000000 in
theorem ca_X11_remark {G : zG} {us : Nat} {g : Nat → Nat → Int} (b k n : Int) (H : PH) (hW : WT 2 g H) (hL : LOGH H) (hM : IM H) : Ca G us 3 121 [(2, 0), (0, b), (0, k), (0, n)] H (fun r H' => (∃ x, r = some (0, x)) ∧ WT 2 g H' ∧ frm [0, 1, 2, 3, 5, 6, 9, 11, 34, 35, 36, 37, 38, 39, 40, 41, 42, 43, 44, 45, 46, 47, 48, 49, 50, 51, 53, 54, 55, 56, 57, 58, 59, 60, 61, 62, 63, 64, 65, 66, 67, 68, 69, 70, 71, 72, 73, 74, 75, 76, 77] H H' ∧ LOGH H' ∧ IM H') := by
  have h2 := rf_1_2 hW
  refine ⟨_, _, _, _, _, _, vm_X11_remark, by simp [pcat], ?_⟩
  refine tr_lab (D := 2) (t := 0) vb_X11_remark_0 _ ve_X11_remark_0 ?_
  simp (maxDischargeDepth := 12) [vb_X11_remark_0, wB, wI, k1, kI, kR, kL, k2, pget, parg, ppush, pcat, zw_lit, zw_m1, zw_m2, zw_m3, zNC_eq, zrow, pup_app, pget_pss, pget_psx, nlg_some, nlg_none, gv_0_0, gv_1_1, tg_0_5, tg_11_0, tg_1_1, sh_590, sh_0, sh_1]
  repeat' (with_reducible (first | (refine And.intro ?_ ?_) | intro _))
  all_goals try (refine Ca_use (ca_X11_isBill _ _ (by omega) (by omega)) (by omega) ?_; rintro _ _ ⟨rfl, rfl⟩; simp (maxDischargeDepth := 12) [wB, wI, k1, kI, kR, kL, k2, pget, parg, ppush, pcat, zw_lit, zw_m1, zw_m2, zw_m3, zNC_eq, zrow, pup_app, pget_pss, pget_psx, nlg_some, nlg_none, gv_0_0, gv_1_1, tg_0_5, tg_11_0, tg_1_1, sh_590, sh_0, sh_1])
  all_goals repeat' (with_reducible (first | (refine And.intro ?_ ?_) | intro _))
  all_goals try (refine Ca_use (ca_X11_within _ _ _ _) (by omega) ?_; rintro _ _ ⟨rfl, rfl⟩; simp (maxDischargeDepth := 12) [wB, wI, k1, kI, kR, kL, k2, pget, parg, ppush, pcat, zw_lit, zw_m1, zw_m2, zw_m3, zNC_eq, zrow, pup_app, pget_pss, pget_psx, nlg_some, nlg_none, gv_0_0, gv_1_1, tg_0_5, tg_11_0, tg_1_1, sh_590, sh_0, sh_1])
  all_goals repeat' (with_reducible (first | (refine And.intro ?_ ?_) | intro _))
  all_goals try (refine Ca_use (ca_X11_within _ _ _ _) (by omega) ?_; rintro _ _ ⟨rfl, rfl⟩; simp (maxDischargeDepth := 12) [wB, wI, k1, kI, kR, kL, k2, pget, parg, ppush, pcat, zw_lit, zw_m1, zw_m2, zw_m3, zNC_eq, zrow, pup_app, pget_pss, pget_psx, nlg_some, nlg_none, gv_0_0, gv_1_1, tg_0_5, tg_11_0, tg_1_1, sh_590, sh_0, sh_1])
  all_goals repeat' (with_reducible (first | (refine And.intro ?_ ?_) | intro _))
  all_goals try (refine tr_lab (D := 2) (t := 28) vb_X11_remark_28 _ ve_X11_remark_28 ?_; simp (maxDischargeDepth := 12) [vb_X11_remark_28, wB, wI, k1, kI, kR, kL, k2, pget, parg, ppush, pcat, zw_lit, zw_m1, zw_m2, zw_m3, zNC_eq, zrow, pup_app, pget_pss, pget_psx, nlg_some, nlg_none, gv_0_0, gv_1_1, tg_0_5, tg_11_0, tg_1_1, sh_590, sh_0, sh_1])
  all_goals repeat' (with_reducible (first | (refine And.intro ?_ ?_) | intro _))
  all_goals try ((refine sg_X11_remark_30 H b (by omega) (by omega) k n (by omega) (by omega) (by omega) (by omega) _ _ ?_ ?_ ?_ ?_ ?_ ?_ ?_ ?_ ?_) <;> (try simp (maxDischargeDepth := 12) [pget_pss, pget_psx, nlg_some, nlg_none, pget, pup_app]))
  all_goals (first | omega | assumption | (exact ⟨_, rfl⟩) | exact frm_refl _ _ |  ((repeat (first | assumption | (rw [hc]; refine w2_bill 3 (by omega) ?_ b0 b1 (by first | omega | exact zw_lo _ | exact zw_hi _ | exact (min99 _).1 | exact (min99 _).2 | (split <;> first | omega | exact zw_lo _ | exact zw_hi _)) (by first | omega | exact zw_lo _ | exact zw_hi _ | exact (min99 _).1 | exact (min99 _).2 | (split <;> first | omega | exact zw_lo _ | exact zw_hi _))) | (rw [hc]; refine w2_bill 4 (by omega) ?_ b0 b1 (by first | omega | exact zw_lo _ | exact zw_hi _ | exact (min99 _).1 | exact (min99 _).2 | (split <;> first | omega | exact zw_lo _ | exact zw_hi _)) (by first | omega | exact zw_lo _ | exact zw_hi _ | exact (min99 _).1 | exact (min99 _).2 | (split <;> first | omega | exact zw_lo _ | exact zw_hi _))) | (rw [hc]; refine fr_bill 3 (by omega) ?_ b0 b1 rfl) | (rw [hc]; refine fr_bill 4 (by omega) ?_ b0 b1 rfl) | exact frm_refl _ _ | (exact ⟨_, rfl⟩) | (refine hF2 _ ?_) | (refine wf_1_7 ?_ (by first | omega | exact zw_lo _ | exact zw_hi _ | exact (min99 _).1 | exact (min99 _).2 | (split <;> first | omega | exact zw_lo _ | exact zw_hi _)) (by first | omega | exact zw_lo _ | exact zw_hi _ | exact (min99 _).1 | exact (min99 _).2 | (split <;> first | omega | exact zw_lo _ | exact zw_hi _))) | (refine ff_1_7 ?_ rfl) | (refine wf_1_8 ?_ (by first | omega | exact zw_lo _ | exact zw_hi _ | exact (min99 _).1 | exact (min99 _).2 | (split <;> first | omega | exact zw_lo _ | exact zw_hi _)) (by first | omega | exact zw_lo _ | exact zw_hi _ | exact (min99 _).1 | exact (min99 _).2 | (split <;> first | omega | exact zw_lo _ | exact zw_hi _))) | (refine ff_1_8 ?_ rfl) | (refine wf_1_9 ?_ (by first | omega | exact zw_lo _ | exact zw_hi _ | exact (min99 _).1 | exact (min99 _).2 | (split <;> first | omega | exact zw_lo _ | exact zw_hi _)) (by first | omega | exact zw_lo _ | exact zw_hi _ | exact (min99 _).1 | exact (min99 _).2 | (split <;> first | omega | exact zw_lo _ | exact zw_hi _))) | (refine ff_1_9 ?_ rfl) | (refine wf_1_10 ?_ (by first | omega | exact zw_lo _ | exact zw_hi _ | exact (min99 _).1 | exact (min99 _).2 | (split <;> first | omega | exact zw_lo _ | exact zw_hi _)) (by first | omega | exact zw_lo _ | exact zw_hi _ | exact (min99 _).1 | exact (min99 _).2 | (split <;> first | omega | exact zw_lo _ | exact zw_hi _))) | (refine ff_1_10 ?_ rfl) | (refine wf_1_11 ?_ (by first | omega | exact zw_lo _ | exact zw_hi _ | exact (min99 _).1 | exact (min99 _).2 | (split <;> first | omega | exact zw_lo _ | exact zw_hi _)) (by first | omega | exact zw_lo _ | exact zw_hi _ | exact (min99 _).1 | exact (min99 _).2 | (split <;> first | omega | exact zw_lo _ | exact zw_hi _))) | (refine ff_1_11 ?_ rfl) | (refine wf_1_12 ?_ (by first | omega | exact zw_lo _ | exact zw_hi _ | exact (min99 _).1 | exact (min99 _).2 | (split <;> first | omega | exact zw_lo _ | exact zw_hi _)) (by first | omega | exact zw_lo _ | exact zw_hi _ | exact (min99 _).1 | exact (min99 _).2 | (split <;> first | omega | exact zw_lo _ | exact zw_hi _))) | (refine ff_1_12 ?_ rfl) | (refine wf_1_13 ?_ (by first | omega | exact zw_lo _ | exact zw_hi _ | exact (min99 _).1 | exact (min99 _).2 | (split <;> first | omega | exact zw_lo _ | exact zw_hi _)) (by first | omega | exact zw_lo _ | exact zw_hi _ | exact (min99 _).1 | exact (min99 _).2 | (split <;> first | omega | exact zw_lo _ | exact zw_hi _))) | (refine ff_1_13 ?_ rfl) | (refine LOGH_pup (g := g) (lv := 2) ?_ ?_ (by omega) (by omega) (by omega) (by omega)) | (refine IM_pup ?_ (by omega)))); done) | decide | (unfold zu; decide) | skip)

