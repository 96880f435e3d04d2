/-! more deeds -/
theorem KX_lt {x : Int} (h : KW x ∨ KL x) : x ≤ 587 := by
  have g : (List.range 622).all (fun c => !(Nat.beq (zSh c).1 4 || Nat.beq (zSh c).1 5) || Nat.ble c 587) = true := by decide +kernel
  rcases h with k | k
  · have := List.all_eq_true.mp g x.toNat (List.mem_range.mpr (by have := k.1; have := k.2.1; omega))
    rw [k.2.2] at this
    have := Nat.le_of_ble_eq_true (show Nat.ble x.toNat 587 = true by simpa using this)
    omega
  · have := List.all_eq_true.mp g x.toNat (List.mem_range.mpr (by have := k.1; have := k.2.1; omega))
    rw [k.2.2] at this
    have := Nat.le_of_ble_eq_true (show Nat.ble x.toNat 587 = true by simpa using this)
    omega
theorem AF_c {H H' : PH} (f : AF H H') {c : Int} (hc : c = 0 ∨ c = 1 ∨ c = 2 ∨ c = 42 ∨ c = 43 ∨ (213 ≤ c ∧ c ≤ 214) ∨ (372 ≤ c ∧ c ≤ 467) ∨ 590 ≤ c ∨ (c = 589)) : H' c = H c := by
  have k1 : ¬ KL c ∧ ¬ KL (c - 1) := ⟨fun w => by have := KZ (Or.inr w); have := KL_in w; have := KX_lt (Or.inr w); omega, fun w => by
    have := KZ (Or.inr w); have := KL_in w; have := KX_lt (Or.inr w)
    by_cases e : c = 589
    · omega
    · omega⟩
  have k2 : ¬ KW (c - 2) := fun w => by
    have := KWz w; have := KX_lt (Or.inl w)
    by_cases e : c = 589
    · have v := w.2.2
      rw [e] at v
      revert v
      decide +kernel
    · omega
  exact f.1 c (by omega) (by omega) (by omega) (by omega) k1.1 k1.2 k2 (by omega)
theorem CQ_AF {H H' : PH} {S : Int → Int → Int} {n : Int} (hR : RC H S n) (f : AF H H') (ci : CI H' (S 0)) (hM : MCC (S 0) H') : CQ H H' S n := by
  obtain ⟨x1, x2, ld, x4, h8, x6, x7⟩ := id hR
  have ok0 := x6 0 (by decide) x4.1.1
  have e2 := x1.1.1.2.2.1
  exact ⟨RC_fr hR ci (CPr_fr (AF_c f (by decide)) (AF_c f (by decide)) x2) (GFL_AF ld (by have := ok0.1.2.2.1; omega) f), hM, ⟨fun c hc => AF_c f (by omega), ⟨by rw [AF_c f (by decide)], AF_c f (by decide)⟩, AF_c f (by decide)⟩, by rw [AF_c f (by decide)], AF_c f (by decide)⟩
theorem CQ_CD {H H1 H' : PH} {S : Int → Int → Int} {n : Int} {B : Int → Int} (a : CQ H H1 S n) (b : CD H1 H' S n B) : CD H H' S n B := ⟨b.1, b.2.1, OF_trans a.2.2.1 b.2.2.1, b.2.2.2.1.trans a.2.2.2.1, b.2.2.2.2⟩
theorem CQ_trans {H H1 H' : PH} {S : Int → Int → Int} {n : Int} (a : CQ H H1 S n) (b : CQ H1 H' S n) : CQ H H' S n := ⟨b.1, b.2.1, OF_trans a.2.2.1 b.2.2.1, b.2.2.2.1.trans a.2.2.2.1, b.2.2.2.2.trans a.2.2.2.2⟩
/-- what a bale in the shed costs -/
def chgA (A : Int → Int) : Int := zw (max 0 (zw (A 8 - A 6)) * A 7)
set_option maxRecDepth 100000 in
theorem sp_c_days (v : Int) (S : Int → Int → Int) (n : Int) (H : PH) (hR : RC H S n) : SPEC 135 [(2, 0), (0, v)] H (fun r H' => ((1 ≤ v ∧ v ≤ 99) ∧ r = some (0, min 99 (S 0 8 + v)) ∧ CD H H' S n (xup (S 0) 8 (min 99 (S 0 8 + v)))) ∨ (¬ (1 ≤ v ∧ v ≤ 99) ∧ r = some (0, -1) ∧ H' = H)) := by
  intro E n' res h
  obtain ⟨x1, x2, ld, x4, h8, x6, x7⟩ := id hR
  have ok0 := x6 0 (by decide) x4.1.1
  have lx := dnx_in h8
  have st := x1.1.1.2.2
  obtain ⟨s2, s3, s4, s5, s6, s7, s8, s9⟩ := id st
  have os := ok0.2.2.1
  unfold OKS at os
  by_cases q : 1 ≤ v ∧ v ≤ 99
  · have q0 := q.1
    have q1 := q.2
    have q2 : ¬ v < 1 := by omega
    have q3 : ¬ 99 < v := by omega
    have n1 : ndHx H 8 (H 1 10) 0 0 1 = H 1 := nd_ne h8 (by decide) (by omega) (by decide) (by decide) (by decide)
    have zv : zw (H 1 10 + v) = S 0 8 + v := by rw [← s8]; exact zw_lit (by omega) (by omega)
    have mc : min (S 0 8 + v) 99 = min 99 (S 0 8 + v) := Int.min_comm _ _
    have h := call_runP 2 vm_X11_days h
    have h := xw_top (hd := []) 4 xD6_ok xc_X11_days xa_X11_days (t := 0) rfl h
    simp (maxDischargeDepth := 12) -implicitDefEqProofs [vb_X11_days_0, vb_X11_days_12, xI_0, xI_1, xI_7, xI_8, xI_14, xI_35, xI_38, xI_49, xI_50, xI_56, xI_60, xI_61, xI_62, xw_X11_days_0, xw_X11_days_12, zw_lit, xB_c, xB_s, xB_n, i1_c, j2_c, k1_c, jJ_e, xlg, xls, xla, xpd, ppush, zw_m1, zw_m2, zw_m3, gf_1_10, gf_11_0, pf_1_10, tg_11_0, tg_1_10, gv_1_10, gv_0_0, xD1, xD2, xD3, xD4, xD5, xD6, xb1_0, q, q0, q1, q2, q3] at h
    obtain ⟨r, H1, ⟨rfl, rfl⟩, h⟩ := xc_use h (sp_nd 8 (H 1 10) 0 0 H (by omega) h8)
    simp (maxDischargeDepth := 12) -implicitDefEqProofs [vb_X11_days_0, vb_X11_days_12, xI_0, xI_1, xI_7, xI_8, xI_14, xI_35, xI_38, xI_49, xI_50, xI_56, xI_60, xI_61, xI_62, xw_X11_days_0, xw_X11_days_12, zw_lit, xB_c, xB_s, xB_n, i1_c, j2_c, k1_c, jJ_e, xlg, xls, xla, xpd, ppush, zw_m1, zw_m2, zw_m3, gf_1_10, gf_11_0, pf_1_10, tg_11_0, tg_1_10, gv_1_10, gv_0_0, xD1, xD2, xD3, xD4, xD5, xD6, xb1_0, n1, mn_a, zv, mc, xp_at, xp_ne] at h
    refine ⟨_, _, h, Or.inl ⟨q, rfl, ?_⟩⟩
    have na := nd_at (H := H) (k := 8) (a := H 1 10) (b := 0) (d := 0) h8
    refine CD_set (k := 8) (a := H 1 10) (b := 0) (d := 0) hR (fun c c1 => xp_ne c1) (fun i hi => by rw [xp_at, if_neg (by omega), n1]) (fun i hi => if_neg (by omega)) ?_ ?_ ?_
    · simp only [xp_at, n1, xup]
      simp [s3, s4, s5, s6, s7, s8, s9]
    · refine OKR_set ok0 (by decide) (by unfold zIn; omega) ?_
      unfold OKS xup
      simp
      omega
    · unfold DD
      rw [na.2.2.1, na.2.2.2.1, na.2.2.2.2.1, na.2.2.2.2.2.1]
      refine Or.inr (Or.inr (Or.inr (Or.inr (Or.inr (Or.inr (Or.inr (Or.inr (Or.inl ⟨rfl, ?_⟩))))))))
      have e : xup (xup (S 0) 8 (min 99 (S 0 8 + v))) 8 (H 1 10) = S 0 := by
        funext j
        unfold xup
        split
        · rename_i j3
          rw [j3]
          exact s8.symm
        · rfl
      rw [e]
      exact REq_refl _
  · by_cases q0 : 1 ≤ v
    · have q1 : ¬ v ≤ 99 := by omega
      have q2 : ¬ v < 1 := by omega
      have q3 : 99 < v := by omega
      have h := call_runP 2 vm_X11_days h
      have h := xw_top (hd := []) 4 xD6_ok xc_X11_days xa_X11_days (t := 0) rfl h
      simp (maxDischargeDepth := 12) -implicitDefEqProofs [vb_X11_days_0, vb_X11_days_12, xI_0, xI_1, xI_7, xI_8, xI_14, xI_35, xI_38, xI_49, xI_50, xI_56, xI_60, xI_61, xI_62, xw_X11_days_0, xw_X11_days_12, zw_lit, xB_c, xB_s, xB_n, i1_c, j2_c, k1_c, jJ_e, xlg, xls, xla, xpd, ppush, zw_m1, zw_m2, zw_m3, gf_1_10, gf_11_0, pf_1_10, tg_11_0, tg_1_10, gv_1_10, gv_0_0, xD1, xD2, xD3, xD4, xD5, xD6, xb1_0, q0, q1, q2, q3] at h
      exact ⟨_, _, h, Or.inr ⟨q, rfl, rfl⟩⟩
    · have q2 : v < 1 := by omega
      have h := call_runP 2 vm_X11_days h
      have h := xw_top (hd := []) 4 xD6_ok xc_X11_days xa_X11_days (t := 0) rfl h
      simp (maxDischargeDepth := 12) -implicitDefEqProofs [vb_X11_days_0, vb_X11_days_12, xI_0, xI_1, xI_7, xI_8, xI_14, xI_35, xI_38, xI_49, xI_50, xI_56, xI_60, xI_61, xI_62, xw_X11_days_0, xw_X11_days_12, zw_lit, xB_c, xB_s, xB_n, i1_c, j2_c, k1_c, jJ_e, xlg, xls, xla, xpd, ppush, zw_m1, zw_m2, zw_m3, gf_1_10, gf_11_0, pf_1_10, tg_11_0, tg_1_10, gv_1_10, gv_0_0, xD1, xD2, xD3, xD4, xD5, xD6, xb1_0, q0, q2] at h
      exact ⟨_, _, h, Or.inr ⟨q, rfl, rfl⟩⟩
set_option maxRecDepth 100000 in
theorem sp_c_rate (v u : Int) (S : Int → Int → Int) (n : Int) (H : PH) (hR : RC H S n) : SPEC 136 [(2, 0), (0, v), (0, u)] H (fun r H' => (((0 ≤ v ∧ v ≤ 99) ∧ (0 ≤ u ∧ u ≤ 999)) ∧ r = some (0, chgA (xup (xup (S 0) 6 v) 7 u)) ∧ CD H H' S n (xup (xup (S 0) 6 v) 7 u)) ∨ (¬ ((0 ≤ v ∧ v ≤ 99) ∧ (0 ≤ u ∧ u ≤ 999)) ∧ r = some (0, -1) ∧ H' = H)) := by
  intro E n' res h
  obtain ⟨x1, x2, ld, x4, h8, x6, x7⟩ := id hR
  have ok0 := x6 0 (by decide) x4.1.1
  have lx := dnx_in h8
  have st := x1.1.1.2.2
  obtain ⟨s2, s3, s4, s5, s6, s7, s8, s9⟩ := id st
  have os := ok0.2.2.1
  unfold OKS at os
  by_cases q : (0 ≤ v ∧ v ≤ 99) ∧ (0 ≤ u ∧ u ≤ 999)
  · have q0 := q.1.1
    have q1 := q.1.2
    have p0 := q.2.1
    have p1 := q.2.2
    have q2 : ¬ v < 0 := by omega
    have q3 : ¬ 99 < v := by omega
    have p2 : ¬ u < 0 := by omega
    have p3 : ¬ 999 < u := by omega
    have n1 : ndHx H 9 (H 1 11) (H 1 12) 0 1 = H 1 := nd_ne h8 (by decide) (by omega) (by decide) (by decide) (by decide)
    have h := call_runP 3 vm_X11_rate h
    have h := xw_top (hd := []) 5 xD6_ok xc_X11_rate xa_X11_rate (t := 0) rfl h
    simp (maxDischargeDepth := 12) -implicitDefEqProofs [vb_X11_rate_0, vb_X11_rate_21, vb_X11_rate_23, xI_0, xI_1, xI_7, xI_8, xI_9, xI_35, xI_37, xI_38, xI_49, xI_50, xI_60, xI_61, xI_62, xw_X11_rate_0, xw_X11_rate_21, xw_X11_rate_23, zw_lit, xB_c, xB_s, xB_n, i1_c, j2_c, k1_c, jJ_e, xlg, xls, xla, xpd, ppush, zw_m1, zw_m2, zw_m3, gf_1_11, gf_1_12, gf_11_0, pf_1_11, pf_1_12, tg_11_0, tg_1_11, tg_1_12, gv_1_11, gv_1_12, gv_0_0, xD1, xD2, xD3, xD4, xD5, xD6, xb1_0, q0, q1, q2, q3, p0, p1, p2, p3] at h
    obtain ⟨r, H1, ⟨rfl, rfl⟩, h⟩ := xc_use h (sp_nd 9 (H 1 11) (H 1 12) 0 H (by omega) h8)
    simp (maxDischargeDepth := 12) -implicitDefEqProofs [vb_X11_rate_0, vb_X11_rate_21, vb_X11_rate_23, xI_0, xI_1, xI_7, xI_8, xI_9, xI_35, xI_37, xI_38, xI_49, xI_50, xI_60, xI_61, xI_62, xw_X11_rate_0, xw_X11_rate_21, xw_X11_rate_23, zw_lit, xB_c, xB_s, xB_n, i1_c, j2_c, k1_c, jJ_e, xlg, xls, xla, xpd, ppush, zw_m1, zw_m2, zw_m3, gf_1_11, gf_1_12, gf_11_0, pf_1_11, pf_1_12, tg_11_0, tg_1_11, tg_1_12, gv_1_11, gv_1_12, gv_0_0, xD1, xD2, xD3, xD4, xD5, xD6, xb1_0, n1, xp_at, xp_ne] at h
    refine ⟨_, _, h, Or.inl ⟨q, ?_, ?_⟩⟩
    · unfold chgA xup
      simp [s8]
    have na := nd_at (H := H) (k := 9) (a := H 1 11) (b := H 1 12) (d := 0) h8
    refine CD_set (k := 9) (a := H 1 11) (b := H 1 12) (d := 0) hR (fun c c1 => by rw [xp_ne c1, xp_ne c1]) (fun i hi => by rw [xp_at, if_neg (by omega), xp_at, if_neg (by omega), n1]) (fun i hi => by unfold xup; rw [if_neg (by omega), if_neg (by omega)]) ?_ ?_ ?_
    · simp only [xp_at, n1, xup]
      simp [s3, s4, s5, s6, s7, s8, s9]
    · have o1 : OKR (xup (S 0) 6 v) := OKR_set ok0 (by decide) (by unfold zIn; omega) (by unfold OKS xup; simp; omega)
      have os1 := o1.2.2.1
      unfold OKS at os1
      exact OKR_set o1 (by decide) (by unfold zIn; omega) (by unfold OKS; simp only [xup] at os1 ⊢; simp at os1 ⊢; omega)
    · unfold DD
      rw [na.2.2.1, na.2.2.2.1, na.2.2.2.2.1, na.2.2.2.2.2.1]
      refine Or.inr (Or.inr (Or.inr (Or.inr (Or.inr (Or.inr (Or.inr (Or.inr (Or.inr (Or.inl ⟨rfl, ?_⟩)))))))))
      have e : xup (xup (xup (xup (S 0) 6 v) 7 u) 6 (H 1 11)) 7 (H 1 12) = S 0 := by
        funext j
        unfold xup
        by_cases j7 : j = 7
        · rw [if_pos j7, j7]
          exact s7.symm
        · by_cases j6 : j = 6
          · rw [if_neg j7, if_pos j6, j6]
            exact s6.symm
          · rw [if_neg j7, if_neg j6, if_neg j7, if_neg j6]
      rw [e]
      exact REq_refl _
  · by_cases q4 : 0 ≤ v ∧ v ≤ 99
    · have q0 := q4.1
      have q1 := q4.2
      have q2 : ¬ v < 0 := by omega
      have q3 : ¬ 99 < v := by omega
      by_cases p0 : 0 ≤ u
      · have p1 : ¬ u ≤ 999 := by omega
        have p2 : ¬ u < 0 := by omega
        have p3 : 999 < u := by omega
        have h := call_runP 3 vm_X11_rate h
        have h := xw_top (hd := []) 5 xD6_ok xc_X11_rate xa_X11_rate (t := 0) rfl h
        simp (maxDischargeDepth := 12) -implicitDefEqProofs [vb_X11_rate_0, vb_X11_rate_21, vb_X11_rate_23, xI_0, xI_1, xI_7, xI_8, xI_9, xI_35, xI_37, xI_38, xI_49, xI_50, xI_60, xI_61, xI_62, xw_X11_rate_0, xw_X11_rate_21, xw_X11_rate_23, zw_lit, xB_c, xB_s, xB_n, i1_c, j2_c, k1_c, jJ_e, xlg, xls, xla, xpd, ppush, zw_m1, zw_m2, zw_m3, gf_1_11, gf_1_12, gf_11_0, pf_1_11, pf_1_12, tg_11_0, tg_1_11, tg_1_12, gv_1_11, gv_1_12, gv_0_0, xD1, xD2, xD3, xD4, xD5, xD6, xb1_0, q0, q1, q2, q3, p0, p1, p2, p3] at h
        exact ⟨_, _, h, Or.inr ⟨q, rfl, rfl⟩⟩
      · have p2 : u < 0 := by omega
        have h := call_runP 3 vm_X11_rate h
        have h := xw_top (hd := []) 5 xD6_ok xc_X11_rate xa_X11_rate (t := 0) rfl h
        simp (maxDischargeDepth := 12) -implicitDefEqProofs [vb_X11_rate_0, vb_X11_rate_21, vb_X11_rate_23, xI_0, xI_1, xI_7, xI_8, xI_9, xI_35, xI_37, xI_38, xI_49, xI_50, xI_60, xI_61, xI_62, xw_X11_rate_0, xw_X11_rate_21, xw_X11_rate_23, zw_lit, xB_c, xB_s, xB_n, i1_c, j2_c, k1_c, jJ_e, xlg, xls, xla, xpd, ppush, zw_m1, zw_m2, zw_m3, gf_1_11, gf_1_12, gf_11_0, pf_1_11, pf_1_12, tg_11_0, tg_1_11, tg_1_12, gv_1_11, gv_1_12, gv_0_0, xD1, xD2, xD3, xD4, xD5, xD6, xb1_0, q0, q1, q2, q3, p0, p2] at h
        exact ⟨_, _, h, Or.inr ⟨q, rfl, rfl⟩⟩
    · by_cases q0 : 0 ≤ v
      · have q1 : ¬ v ≤ 99 := by omega
        have q2 : ¬ v < 0 := by omega
        have q3 : 99 < v := by omega
        have h := call_runP 3 vm_X11_rate h
        have h := xw_top (hd := []) 5 xD6_ok xc_X11_rate xa_X11_rate (t := 0) rfl h
        simp (maxDischargeDepth := 12) -implicitDefEqProofs [vb_X11_rate_0, vb_X11_rate_21, vb_X11_rate_23, xI_0, xI_1, xI_7, xI_8, xI_9, xI_35, xI_37, xI_38, xI_49, xI_50, xI_60, xI_61, xI_62, xw_X11_rate_0, xw_X11_rate_21, xw_X11_rate_23, zw_lit, xB_c, xB_s, xB_n, i1_c, j2_c, k1_c, jJ_e, xlg, xls, xla, xpd, ppush, zw_m1, zw_m2, zw_m3, gf_1_11, gf_1_12, gf_11_0, pf_1_11, pf_1_12, tg_11_0, tg_1_11, tg_1_12, gv_1_11, gv_1_12, gv_0_0, xD1, xD2, xD3, xD4, xD5, xD6, xb1_0, q0, q1, q2, q3] at h
        exact ⟨_, _, h, Or.inr ⟨q, rfl, rfl⟩⟩
      · have q2 : v < 0 := by omega
        have h := call_runP 3 vm_X11_rate h
        have h := xw_top (hd := []) 5 xD6_ok xc_X11_rate xa_X11_rate (t := 0) rfl h
        simp (maxDischargeDepth := 12) -implicitDefEqProofs [vb_X11_rate_0, vb_X11_rate_21, vb_X11_rate_23, xI_0, xI_1, xI_7, xI_8, xI_9, xI_35, xI_37, xI_38, xI_49, xI_50, xI_60, xI_61, xI_62, xw_X11_rate_0, xw_X11_rate_21, xw_X11_rate_23, zw_lit, xB_c, xB_s, xB_n, i1_c, j2_c, k1_c, jJ_e, xlg, xls, xla, xpd, ppush, zw_m1, zw_m2, zw_m3, gf_1_11, gf_1_12, gf_11_0, pf_1_11, pf_1_12, tg_11_0, tg_1_11, tg_1_12, gv_1_11, gv_1_12, gv_0_0, xD1, xD2, xD3, xD4, xD5, xD6, xb1_0, q0, q2] at h
        exact ⟨_, _, h, Or.inr ⟨q, rfl, rfl⟩⟩
