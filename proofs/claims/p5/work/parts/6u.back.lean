/-! ===== back of the class ===== -/
theorem LOK_N {N N' : Int} {R R' : Int → Int} {t : List LE} (h : LOK N R t) (e : N' = N) (hN : N ≤ 12) (hr : ∀ x, 0 ≤ x → x ≤ 11 → R' x = R x) : LOK N' R' t := by
  rw [e]
  exact LOK_congr (fun x x0 x1 => hr x x0 (by omega)) h
theorem ca_undo {G : zG} {us : Nat} {g : Nat → Nat → Int} (l : Int) (H : PH) (hW : WT 2 g H) (hM : IM H) (hL : LOGH H) (l0 : 0 ≤ l) (l1 : l ≤ 19) (t : List LE) (hK : LOK (H 1 2) (rem H) (ent H l :: t)) : Ca G us 7 31 [(2, 469 + 6 * l), (2, 1)] H (fun r H' => r = none ∧ WT 2 g H' ∧ frm [0, 1, 2, 3, 5, 6, 9, 11, 34, 35, 36, 37, 38, 39, 40, 41, 42, 43, 44, 45, 46, 47, 48, 49, 50, 51, 53, 54, 55, 56, 57, 58, 59, 60, 61, 62, 63, 64, 65, 66, 67, 68, 69, 70, 71, 72, 73, 74, 75, 76, 77, 4, 10, 8] H H' ∧ IM H' ∧ SC H H' ∧ H' 213 1 = H 213 1 ∧ LOK (H' 1 2) (rem H') t) := by
  have hb := rf_1_2 hW
  have fin : ∀ (r : Option pv) (H' : PH), (LOK (H 1 2) (rem H) t) → (r = none ∧ WT 2 g H' ∧ frm [0, 1, 2, 3, 5, 6, 9, 11, 34, 35, 36, 37, 38, 39, 40, 41, 42, 43, 44, 45, 46, 47, 48, 49, 50, 51, 53, 54, 55, 56, 57, 58, 59, 60, 61, 62, 63, 64, 65, 66, 67, 68, 69, 70, 71, 72, 73, 74, 75, 76, 77, 4, 10, 8] H H' ∧ IM H' ∧ SME H H') → (r = none ∧ WT 2 g H' ∧ frm [0, 1, 2, 3, 5, 6, 9, 11, 34, 35, 36, 37, 38, 39, 40, 41, 42, 43, 44, 45, 46, 47, 48, 49, 50, 51, 53, 54, 55, 56, 57, 58, 59, 60, 61, 62, 63, 64, 65, 66, 67, 68, 69, 70, 71, 72, 73, 74, 75, 76, 77, 4, 10, 8] H H' ∧ IM H' ∧ SC H H' ∧ H' 213 1 = H 213 1 ∧ LOK (H' 1 2) (rem H') t) := fun r H' h q => ⟨q.1, q.2.1, q.2.2.1, q.2.2.2.1, q.2.2.2.2.1, q.2.2.2.2.2.2.2, LOK_N h q.2.2.2.2.2.1 hb.2 q.2.2.2.2.2.2.1⟩
  unfold LOK at hK
  by_cases k0 : H (469 + 6 * l) 0 = 0
  · rw [if_pos (show (ent H l).1 = 0 from k0)] at hK
    obtain ⟨⟨a0, aN, a12, b0, b1, c0, c1⟩, ht⟩ := hK
    refine Ca_mono (Nat.le_refl _) ?_ (ca_undo_0 l (469 + 6 * l) H rfl hW hM l0 l1 k0 ⟨a0, a12⟩ ⟨b0, b1⟩ ⟨c0, c1⟩)
    rintro r H' ⟨q1, q2, q3, q4, q5, q6, q7, q8⟩
    exact ⟨q1, q2, q3, q4, q5, q8, LOK_N ht q6 a12 q7⟩
  rw [if_neg (show ¬ (ent H l).1 = 0 from k0)] at hK
  by_cases k2 : H (469 + 6 * l) 0 = 2
  · rw [if_pos (show (ent H l).1 = 2 from k2)] at hK
    obtain ⟨⟨a0, aN, a11, r1⟩, ht⟩ := hK
    refine Ca_mono (Nat.le_refl _) ?_ (ca_undo_2 l (469 + 6 * l) H rfl hW hM l0 l1 k2 ⟨a0, a11⟩ r1)
    rintro r H' ⟨q1, q2, q3, q4, q5, q6, q7, q8⟩
    exact ⟨q1, q2, q3, q4, q5, q8, LOK_N ht q6 hb.2 q7⟩
  rw [if_neg (show ¬ (ent H l).1 = 2 from k2)] at hK
  obtain ⟨⟨p5, p3, p7⟩, ht⟩ := hK
  by_cases k1 : H (469 + 6 * l) 0 = 1
  · exact Ca_mono (Nat.le_refl _) (fun r H' q => fin r H' ht q) (ca_undo_1 l (469 + 6 * l) H rfl hW hM l0 l1 k1)
  by_cases k3 : H (469 + 6 * l) 0 = 3
  · exact Ca_mono (Nat.le_refl _) (fun r H' q => fin r H' ht q) (ca_undo_3 l (469 + 6 * l) H rfl hW hM l0 l1 k3 (p3 (Or.inl k3)))
  by_cases k4 : H (469 + 6 * l) 0 = 4
  · exact Ca_mono (Nat.le_refl _) (fun r H' q => fin r H' ht q) (ca_undo_4 l (469 + 6 * l) H rfl hW hM l0 l1 k4)
  by_cases k5 : H (469 + 6 * l) 0 = 5
  · exact Ca_mono (Nat.le_refl _) (fun r H' q => fin r H' ht q) (ca_undo_5 l (469 + 6 * l) H rfl hW hM l0 l1 k5 (p5 k5))
  by_cases k6 : H (469 + 6 * l) 0 = 6
  · exact Ca_mono (Nat.le_refl _) (fun r H' q => fin r H' ht q) (ca_undo_6 l (469 + 6 * l) H rfl hW hM l0 l1 k6)
  by_cases k7 : H (469 + 6 * l) 0 = 7
  · exact Ca_mono (Nat.le_refl _) (fun r H' q => fin r H' ht q) (ca_undo_7 l (469 + 6 * l) H rfl hW hM l0 l1 k7 (p7 k7) hL)
  by_cases k8 : H (469 + 6 * l) 0 = 8
  · exact Ca_mono (Nat.le_refl _) (fun r H' q => fin r H' ht q) (ca_undo_8 l (469 + 6 * l) H rfl hW hM l0 l1 k8)
  by_cases k9 : H (469 + 6 * l) 0 = 9
  · exact Ca_mono (Nat.le_refl _) (fun r H' q => fin r H' ht q) (ca_undo_9 l (469 + 6 * l) H rfl hW hM l0 l1 k9)
  have kd : H (469 + 6 * l) 0 < 0 ∨ 9 < H (469 + 6 * l) 0 := by omega
  exact Ca_mono (Nat.le_refl _) (fun r H' q => fin r H' ht q) (ca_undo_d l (469 + 6 * l) H rfl hW hM l0 l1 kd (p3 (Or.inr (fun q => by have : 0 ≤ H (469 + 6 * l) 0 ∧ H (469 + 6 * l) 0 ≤ 9 := q; omega))))
def bkH (H : PH) (l m : Int) : PH := pup (pup (pup (pup (pup H 0 8 l) 0 7 m) 215 1 0) 221 2 0) 372 2 0
theorem bk_ok {g : Nat → Nat → Int} {H H' : PH} {l m : Int} (hW : WT 2 g H') (hM : IM H') (hF : frm [0, 1, 2, 3, 5, 6, 9, 11, 34, 35, 36, 37, 38, 39, 40, 41, 42, 43, 44, 45, 46, 47, 48, 49, 50, 51, 53, 54, 55, 56, 57, 58, 59, 60, 61, 62, 63, 64, 65, 66, 67, 68, 69, 70, 71, 72, 73, 74, 75, 76, 77, 4, 10, 8] H H') (hz : H' 213 1 = H 213 1) (s : SC H H') (l0 : 0 ≤ l) (l1 : l ≤ 19) (m0 : 0 ≤ m) (m1 : m ≤ 20) (hK : LOK (H' 1 2) (rem H') (lgf (ent H) l m.toNat)) : WT 2 g (bkH H' l m) ∧ frm [0, 1, 2, 3, 5, 6, 9, 11, 34, 35, 36, 37, 38, 39, 40, 41, 42, 43, 44, 45, 46, 47, 48, 49, 50, 51, 53, 54, 55, 56, 57, 58, 59, 60, 61, 62, 63, 64, 65, 66, 67, 68, 69, 70, 71, 72, 73, 74, 75, 76, 77, 4, 10, 8] H (bkH H' l m) ∧ LOGH (bkH H' l m) ∧ IM (bkH H' l m) ∧ bkH H' l m 213 1 = H 213 1 := by
  have row : ∀ c : Int, c ≠ 0 → c ≠ 215 → c ≠ 221 → c ≠ 372 → bkH H' l m c = H' c := fun c a b d e => by
    unfold bkH
    rw [pup_row e, pup_row d, pup_row b, pup_row a, pup_row a]
  have e8 : bkH H' l m 0 8 = l := by
    unfold bkH
    rw [pup_row (by decide), pup_row (by decide), pup_row (by decide)]
    rfl
  have e7 : bkH H' l m 0 7 = m := by
    unfold bkH
    rw [pup_row (by decide), pup_row (by decide), pup_row (by decide)]
    rfl
  refine ⟨?_, ?_, ?_, ?_, ?_⟩
  · exact wf_372_2 (wf_221_2 (wf_215_1 (w2_0_7 (w2_0_8 hW l0 l1) m0 m1) (by decide) (by decide)) (by decide) (by decide)) (by decide) (by decide)
  · exact ff_372_2 (ff_221_2 (ff_215_1 (ff_0_7 (ff_0_8 hF rfl) rfl) rfl) rfl) rfl
  · have hb := rf_1_2 hW
    have el : lgf (ent (bkH H' l m)) l m.toNat = lgf (ent H) l m.toNat := lgf_congr (fun j j0 j1 => by
      rw [← s.2.2 j j0 j1]
      unfold ent
      rw [row _ (by omega) (by omega) (by omega) (by omega)])
    have : LG (bkH H' l m 1 2) (rem (bkH H' l m)) (bkH H' l m) := by
      unfold LG
      rw [e8, e7, el]
      refine LOK_N hK (by rw [row 1 (by omega) (by omega) (by omega) (by omega)]) hb.2 (fun x x0 x1 => ?_)
      unfold rem
      rw [row _ (by omega) (by omega) (by omega) (by omega)]
    exact this
  · exact IM_pup (IM_pup (IM_pup (IM_pup (IM_pup hM (by omega)) (by omega)) (by omega)) (by omega)) (by omega)
  · rw [row 213 (by omega) (by omega) (by omega) (by omega)]
    exact hz
theorem log_pop {H : PH} (h8 : 0 ≤ H 0 8 ∧ H 0 8 ≤ 19) (h7 : 1 ≤ H 0 7) (hL : LOGH H) : LOK (H 1 2) (rem H) (ent H (H 0 8) :: lgf (ent H) (if H 0 8 = 0 then 19 else H 0 8 - 1) (H 0 7 - 1).toNat) := by
  have e : (H 0 7).toNat = (H 0 7 - 1).toNat + 1 := by omega
  have h : LOK (H 1 2) (rem H) (lgf (ent H) (H 0 8) (H 0 7).toNat) := hL
  rw [e, lgf_pop h8.1 h8.2 rfl] at h
  exact h

set_option maxRecDepth 20000 in
set_option maxHeartbeats 4000000 in
theorem ca_X11_back_a {G : zG} {us : Nat} {g : Nat → Nat → Int}  (H : PH) (hW : WT 2 g H) (hL : LOGH H) (hM : IM H) (e7 : ¬ H 0 7 = 0) (e8 : H 0 8 = 0) : Ca G us 9 142 [(2, 0)] H (fun r H' => (∃ x, r = some (0, x)) ∧ WT 2 g H' ∧ frm [0, 1, 2, 3, 5, 6, 9, 11, 34, 35, 36, 37, 38, 39, 40, 41, 42, 43, 44, 45, 46, 47, 48, 49, 50, 51, 53, 54, 55, 56, 57, 58, 59, 60, 61, 62, 63, 64, 65, 66, 67, 68, 69, 70, 71, 72, 73, 74, 75, 76, 77, 4, 10, 8] H H' ∧ LOGH H' ∧ IM H' ∧ H' 213 1 = H 213 1) := by
  have h8 := rf_0_8 hW
  have h7 := rf_0_7 hW
  have gD : ∀ X : PH, gv X 468 (H 0 8) = 469 + 6 * H 0 8 := fun X => gv_468 h8.1 h8.2
  have c0 : 0 ≤ 469 + 6 * H 0 8 := by omega
  have c1 : 469 + 6 * H 0 8 < 622 := by omega
  have z7 : zw (H 0 7 - 1) = H 0 7 - 1 := zw_lit (by omega) (by omega)
  have z8 : zw (H 0 8 - 1) = H 0 8 - 1 := zw_lit (by omega) (by omega)
  have hP := log_pop h8 (by omega) hL
  rw [if_pos e8] at hP
  refine ⟨_, _, _, _, _, _, vm_X11_back, by simp [pcat], ?_⟩
  refine tr_lab (D := 8) (t := 0) vb_X11_back_0 _ ve_X11_back_0 ?_
  simp (maxDischargeDepth := 12) [vb_X11_back_0, wB, wI, k1, kI, kR, kL, k2, pget, parg, ppush, pcat, zw_lit, zw_m1, zw_m2, zw_m3, zNC_eq, zrow, pup_app, pget_pss, pget_psx, nlg_some, nlg_none, gv_0_0, gv_0_6, gv_0_7, gv_0_8, pe, tg_11_0, tg_11_6, tg_11_7, tg_11_8, zfit, zisI, sh_590, sh_0, sh_468, gD, z7, z8, c0, c1, e7]
  repeat' (with_reducible (first | (refine And.intro ?_ ?_) | intro _))
  all_goals try (refine tr_lab (D := 8) (t := 9) vb_X11_back_9 _ ve_X11_back_9 ?_; simp (maxDischargeDepth := 12) [vb_X11_back_9, wB, wI, k1, kI, kR, kL, k2, pget, parg, ppush, pcat, zw_lit, zw_m1, zw_m2, zw_m3, zNC_eq, zrow, pup_app, pget_pss, pget_psx, nlg_some, nlg_none, gv_0_0, gv_0_6, gv_0_7, gv_0_8, pe, tg_11_0, tg_11_6, tg_11_7, tg_11_8, zfit, zisI, sh_590, sh_0, sh_468, gD, z7, z8, c0, c1, e7])
  all_goals repeat' (with_reducible (first | (refine And.intro ?_ ?_) | intro _))
  all_goals try (refine Ca_use (ca_undo (H 0 8) H hW hM hL h8.1 h8.2 _ hP) (by omega) ?_; rintro _ _ ⟨rfl, hW2, hF2, hM2, hS2, hZ2, hK2⟩; simp (maxDischargeDepth := 12) [wB, wI, k1, kI, kR, kL, k2, pget, parg, ppush, pcat, zw_lit, zw_m1, zw_m2, zw_m3, zNC_eq, zrow, pup_app, pget_pss, pget_psx, nlg_some, nlg_none, gv_0_0, gv_0_6, gv_0_7, gv_0_8, pe, tg_11_0, tg_11_6, tg_11_7, tg_11_8, zfit, zisI, sh_590, sh_0, sh_468, gD, z7, z8, c0, c1, e7, hS2.1, hS2.2.1])
  all_goals repeat' (with_reducible (first | (refine And.intro ?_ ?_) | intro _))
  all_goals try (refine tr_lab (D := 8) (t := 38) vb_X11_back_38 _ ve_X11_back_38 ?_; simp (maxDischargeDepth := 12) [vb_X11_back_38, wB, wI, k1, kI, kR, kL, k2, pget, parg, ppush, pcat, zw_lit, zw_m1, zw_m2, zw_m3, zNC_eq, zrow, pup_app, pget_pss, pget_psx, nlg_some, nlg_none, gv_0_0, gv_0_6, gv_0_7, gv_0_8, pe, tg_11_0, tg_11_6, tg_11_7, tg_11_8, zfit, zisI, sh_590, sh_0, sh_468, gD, z7, z8, c0, c1, e7])
  all_goals repeat' (with_reducible (first | (refine And.intro ?_ ?_) | intro _))
  all_goals try (refine tr_lab (D := 8) (t := 44) vb_X11_back_44 _ ve_X11_back_44 ?_; simp (maxDischargeDepth := 12) [vb_X11_back_44, wB, wI, k1, kI, kR, kL, k2, pget, parg, ppush, pcat, zw_lit, zw_m1, zw_m2, zw_m3, zNC_eq, zrow, pup_app, pget_pss, pget_psx, nlg_some, nlg_none, gv_0_0, gv_0_6, gv_0_7, gv_0_8, pe, tg_11_0, tg_11_6, tg_11_7, tg_11_8, zfit, zisI, sh_590, sh_0, sh_468, gD, z7, z8, c0, c1, e7])
  all_goals repeat' (with_reducible (first | (refine And.intro ?_ ?_) | intro _))
  all_goals try (refine Ca_use (ca_X11_forgetAnswers _) (by omega) ?_; rintro _ _ ⟨rfl, rfl⟩; simp (maxDischargeDepth := 12) [wB, wI, k1, kI, kR, kL, k2, pget, parg, ppush, pcat, zw_lit, zw_m1, zw_m2, zw_m3, zNC_eq, zrow, pup_app, pget_pss, pget_psx, nlg_some, nlg_none, gv_0_0, gv_0_6, gv_0_7, gv_0_8, pe, tg_11_0, tg_11_6, tg_11_7, tg_11_8, zfit, zisI, sh_590, sh_0, sh_468, gD, z7, z8, c0, c1, e7])
  all_goals repeat' (with_reducible (first | (refine And.intro ?_ ?_) | intro _))
  all_goals (first | omega | assumption | (exact ⟨_, rfl⟩) | (exact (sh_deed h8.1 h8.2).1) | (exfalso; omega) | ((try simp only [hS2.1, hS2.2.1, z7, z8]); first | exact (bk_ok (l := 19) (m := H 0 7 - 1) hW2 hM2 hF2 hZ2 hS2 (by omega) (by omega) (by omega) (by omega) hK2).1 | exact (bk_ok (l := 19) (m := H 0 7 - 1) hW2 hM2 hF2 hZ2 hS2 (by omega) (by omega) (by omega) (by omega) hK2).2.1 | exact (bk_ok (l := 19) (m := H 0 7 - 1) hW2 hM2 hF2 hZ2 hS2 (by omega) (by omega) (by omega) (by omega) hK2).2.2.1 | exact (bk_ok (l := 19) (m := H 0 7 - 1) hW2 hM2 hF2 hZ2 hS2 (by omega) (by omega) (by omega) (by omega) hK2).2.2.2.1 | exact (bk_ok (l := 19) (m := H 0 7 - 1) hW2 hM2 hF2 hZ2 hS2 (by omega) (by omega) (by omega) (by omega) hK2).2.2.2.2) | decide | (unfold zu; decide) | skip)

set_option maxRecDepth 20000 in
set_option maxHeartbeats 4000000 in
theorem ca_X11_back_b {G : zG} {us : Nat} {g : Nat → Nat → Int}  (H : PH) (hW : WT 2 g H) (hL : LOGH H) (hM : IM H) (e7 : ¬ H 0 7 = 0) (e8 : ¬ H 0 8 = 0) : Ca G us 9 142 [(2, 0)] H (fun r H' => (∃ x, r = some (0, x)) ∧ WT 2 g H' ∧ frm [0, 1, 2, 3, 5, 6, 9, 11, 34, 35, 36, 37, 38, 39, 40, 41, 42, 43, 44, 45, 46, 47, 48, 49, 50, 51, 53, 54, 55, 56, 57, 58, 59, 60, 61, 62, 63, 64, 65, 66, 67, 68, 69, 70, 71, 72, 73, 74, 75, 76, 77, 4, 10, 8] H H' ∧ LOGH H' ∧ IM H' ∧ H' 213 1 = H 213 1) := by
  have h8 := rf_0_8 hW
  have h7 := rf_0_7 hW
  have gD : ∀ X : PH, gv X 468 (H 0 8) = 469 + 6 * H 0 8 := fun X => gv_468 h8.1 h8.2
  have c0 : 0 ≤ 469 + 6 * H 0 8 := by omega
  have c1 : 469 + 6 * H 0 8 < 622 := by omega
  have z7 : zw (H 0 7 - 1) = H 0 7 - 1 := zw_lit (by omega) (by omega)
  have z8 : zw (H 0 8 - 1) = H 0 8 - 1 := zw_lit (by omega) (by omega)
  have hP := log_pop h8 (by omega) hL
  rw [if_neg e8] at hP
  refine ⟨_, _, _, _, _, _, vm_X11_back, by simp [pcat], ?_⟩
  refine tr_lab (D := 8) (t := 0) vb_X11_back_0 _ ve_X11_back_0 ?_
  simp (maxDischargeDepth := 12) [vb_X11_back_0, wB, wI, k1, kI, kR, kL, k2, pget, parg, ppush, pcat, zw_lit, zw_m1, zw_m2, zw_m3, zNC_eq, zrow, pup_app, pget_pss, pget_psx, nlg_some, nlg_none, gv_0_0, gv_0_6, gv_0_7, gv_0_8, pe, tg_11_0, tg_11_6, tg_11_7, tg_11_8, zfit, zisI, sh_590, sh_0, sh_468, gD, z7, z8, c0, c1, e7]
  repeat' (with_reducible (first | (refine And.intro ?_ ?_) | intro _))
  all_goals try (refine tr_lab (D := 8) (t := 9) vb_X11_back_9 _ ve_X11_back_9 ?_; simp (maxDischargeDepth := 12) [vb_X11_back_9, wB, wI, k1, kI, kR, kL, k2, pget, parg, ppush, pcat, zw_lit, zw_m1, zw_m2, zw_m3, zNC_eq, zrow, pup_app, pget_pss, pget_psx, nlg_some, nlg_none, gv_0_0, gv_0_6, gv_0_7, gv_0_8, pe, tg_11_0, tg_11_6, tg_11_7, tg_11_8, zfit, zisI, sh_590, sh_0, sh_468, gD, z7, z8, c0, c1, e7])
  all_goals repeat' (with_reducible (first | (refine And.intro ?_ ?_) | intro _))
  all_goals try (refine Ca_use (ca_undo (H 0 8) H hW hM hL h8.1 h8.2 _ hP) (by omega) ?_; rintro _ _ ⟨rfl, hW2, hF2, hM2, hS2, hZ2, hK2⟩; simp (maxDischargeDepth := 12) [wB, wI, k1, kI, kR, kL, k2, pget, parg, ppush, pcat, zw_lit, zw_m1, zw_m2, zw_m3, zNC_eq, zrow, pup_app, pget_pss, pget_psx, nlg_some, nlg_none, gv_0_0, gv_0_6, gv_0_7, gv_0_8, pe, tg_11_0, tg_11_6, tg_11_7, tg_11_8, zfit, zisI, sh_590, sh_0, sh_468, gD, z7, z8, c0, c1, e7, hS2.1, hS2.2.1])
  all_goals repeat' (with_reducible (first | (refine And.intro ?_ ?_) | intro _))
  all_goals try (refine tr_lab (D := 8) (t := 38) vb_X11_back_38 _ ve_X11_back_38 ?_; simp (maxDischargeDepth := 12) [vb_X11_back_38, wB, wI, k1, kI, kR, kL, k2, pget, parg, ppush, pcat, zw_lit, zw_m1, zw_m2, zw_m3, zNC_eq, zrow, pup_app, pget_pss, pget_psx, nlg_some, nlg_none, gv_0_0, gv_0_6, gv_0_7, gv_0_8, pe, tg_11_0, tg_11_6, tg_11_7, tg_11_8, zfit, zisI, sh_590, sh_0, sh_468, gD, z7, z8, c0, c1, e7])
  all_goals repeat' (with_reducible (first | (refine And.intro ?_ ?_) | intro _))
  all_goals try (refine tr_lab (D := 8) (t := 44) vb_X11_back_44 _ ve_X11_back_44 ?_; simp (maxDischargeDepth := 12) [vb_X11_back_44, wB, wI, k1, kI, kR, kL, k2, pget, parg, ppush, pcat, zw_lit, zw_m1, zw_m2, zw_m3, zNC_eq, zrow, pup_app, pget_pss, pget_psx, nlg_some, nlg_none, gv_0_0, gv_0_6, gv_0_7, gv_0_8, pe, tg_11_0, tg_11_6, tg_11_7, tg_11_8, zfit, zisI, sh_590, sh_0, sh_468, gD, z7, z8, c0, c1, e7])
  all_goals repeat' (with_reducible (first | (refine And.intro ?_ ?_) | intro _))
  all_goals try (refine Ca_use (ca_X11_forgetAnswers _) (by omega) ?_; rintro _ _ ⟨rfl, rfl⟩; simp (maxDischargeDepth := 12) [wB, wI, k1, kI, kR, kL, k2, pget, parg, ppush, pcat, zw_lit, zw_m1, zw_m2, zw_m3, zNC_eq, zrow, pup_app, pget_pss, pget_psx, nlg_some, nlg_none, gv_0_0, gv_0_6, gv_0_7, gv_0_8, pe, tg_11_0, tg_11_6, tg_11_7, tg_11_8, zfit, zisI, sh_590, sh_0, sh_468, gD, z7, z8, c0, c1, e7])
  all_goals repeat' (with_reducible (first | (refine And.intro ?_ ?_) | intro _))
  all_goals (first | omega | assumption | (exact ⟨_, rfl⟩) | (exact (sh_deed h8.1 h8.2).1) | (exfalso; omega) | ((try simp only [hS2.1, hS2.2.1, z7, z8]); first | exact (bk_ok (l := (H 0 8 - 1)) (m := H 0 7 - 1) hW2 hM2 hF2 hZ2 hS2 (by omega) (by omega) (by omega) (by omega) hK2).1 | exact (bk_ok (l := (H 0 8 - 1)) (m := H 0 7 - 1) hW2 hM2 hF2 hZ2 hS2 (by omega) (by omega) (by omega) (by omega) hK2).2.1 | exact (bk_ok (l := (H 0 8 - 1)) (m := H 0 7 - 1) hW2 hM2 hF2 hZ2 hS2 (by omega) (by omega) (by omega) (by omega) hK2).2.2.1 | exact (bk_ok (l := (H 0 8 - 1)) (m := H 0 7 - 1) hW2 hM2 hF2 hZ2 hS2 (by omega) (by omega) (by omega) (by omega) hK2).2.2.2.1 | exact (bk_ok (l := (H 0 8 - 1)) (m := H 0 7 - 1) hW2 hM2 hF2 hZ2 hS2 (by omega) (by omega) (by omega) (by omega) hK2).2.2.2.2) | decide | (unfold zu; decide) | skip)

set_option maxRecDepth 20000 in
set_option maxHeartbeats 4000000 in
theorem ca_X11_back_0 {G : zG} {us : Nat} {g : Nat → Nat → Int}  (H : PH) (hW : WT 2 g H) (hL : LOGH H) (hM : IM H) (e7 : H 0 7 = 0) : Ca G us 9 142 [(2, 0)] H (fun r H' => (∃ x, r = some (0, x)) ∧ WT 2 g H' ∧ frm [0, 1, 2, 3, 5, 6, 9, 11, 34, 35, 36, 37, 38, 39, 40, 41, 42, 43, 44, 45, 46, 47, 48, 49, 50, 51, 53, 54, 55, 56, 57, 58, 59, 60, 61, 62, 63, 64, 65, 66, 67, 68, 69, 70, 71, 72, 73, 74, 75, 76, 77, 4, 10, 8] H H' ∧ LOGH H' ∧ IM H' ∧ H' 213 1 = H 213 1) := by
  refine ⟨_, _, _, _, _, _, vm_X11_back, by simp [pcat], ?_⟩
  refine tr_lab (D := 8) (t := 0) vb_X11_back_0 _ ve_X11_back_0 ?_
  simp (maxDischargeDepth := 12) [vb_X11_back_0, wB, wI, k1, kI, kR, kL, k2, pget, parg, ppush, pcat, zw_lit, zw_m1, zw_m2, zw_m3, zNC_eq, zrow, pup_app, pget_pss, pget_psx, nlg_some, nlg_none, gv_0_0, gv_0_6, gv_0_7, gv_0_8, pe, tg_11_0, tg_11_6, tg_11_7, tg_11_8, zfit, zisI, sh_590, sh_0, e7]
  repeat' (with_reducible (first | (refine And.intro ?_ ?_) | intro _))
  all_goals (first | omega | assumption | (exact ⟨_, rfl⟩) | exact frm_refl _ _ | skip)

theorem ca_X11_back {G : zG} {us : Nat} {g : Nat → Nat → Int} (H : PH) (hW : WT 2 g H) (hL : LOGH H) (hM : IM H) : Ca G us 9 142 [(2, 0)] H (fun r H' => (∃ x, r = some (0, x)) ∧ WT 2 g H' ∧ frm [0, 1, 2, 3, 5, 6, 9, 11, 34, 35, 36, 37, 38, 39, 40, 41, 42, 43, 44, 45, 46, 47, 48, 49, 50, 51, 53, 54, 55, 56, 57, 58, 59, 60, 61, 62, 63, 64, 65, 66, 67, 68, 69, 70, 71, 72, 73, 74, 75, 76, 77, 4, 10, 8] H H' ∧ LOGH H' ∧ IM H' ∧ H' 213 1 = H 213 1) := by
  by_cases e7 : H 0 7 = 0
  · exact ca_X11_back_0 H hW hL hM e7
  · by_cases e8 : H 0 8 = 0
    · exact ca_X11_back_a H hW hL hM e7 e8
    · exact ca_X11_back_b H hW hL hM e7 e8

