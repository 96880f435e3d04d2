/-! the model's deliveries, struck lines, back -/
theorem MQs_SC {cs fs : List Int} {H H' : PH} (h : SCm cs fs H H') (hc : ∀ c ∈ cs, 594 ≤ c ∧ c ≤ 620) (hf : ∀ i ∈ fs, ¬ i = 2 ∧ ¬ i = 4 ∧ ¬ i = 51) : MQs H H' := by
  have e : ∀ c, (c < 590 ∨ 590 < c ∧ c < 594 ∨ 620 < c) → H' c = H c := fun c w => h.1 c (fun q => by have := hc c q; omega) (by omega)
  exact ⟨⟨fun c hc => e c (Or.inl hc), ⟨h.2 51 (fun q => (hf 51 q).2.2 rfl), e 621 (by decide)⟩, e 593 (by decide)⟩, h.2 4 (fun q => (hf 4 q).2.1 rfl), e 591 (by decide), h.2 2 (fun q => (hf 2 q).1 rfl), e 592 (by decide)⟩
theorem MQs_SCa {H H' : PH} (h : SCm [598, 599, 600, 601, 602, 603, 604, 605, 606, 607, 608, 609] [17, 18, 19, 26, 31, 32] H H') : MQs H H' := MQs_SC h (by decide) (by decide)
theorem MDs_q {H H1 H' : PH} {R : Int → Int → Int} {n : Int} {B : Int → Int} (a : MQs H H1) (b : MDs H1 H' R n B) : MDs H H' R n B := ⟨MO_trans a.1 b.1, b.2.1.trans a.2.1, b.2.2.1, b.2.2.2.1, by rw [← a.2.2.1]; exact b.2.2.2.2⟩
set_option maxRecDepth 100000 in
theorem sp_m_deliver (b v : Int) (R : Int → Int → Int) (n : Int) (H : PH) (ok : OKR (H 591)) (hn : 0 ≤ n ∧ n ≤ 20) (h2 : H 590 2 = n) (hK : KPr R n H) : SPEC 256 [(2, 590), (0, b), (0, v)] H (fun r H' => (((0 ≤ b ∧ b < H 591 0) ∧ (1 ≤ v ∧ v ≤ shdA (H 591) b)) ∧ r = some (0, zw (v * chgA (H 591))) ∧ MDs H H' R n (dlA (H 591) b v)) ∨ (¬ ((0 ≤ b ∧ b < H 591 0) ∧ (1 ≤ v ∧ v ≤ shdA (H 591) b)) ∧ r = some (0, -1) ∧ MQs H H')) := by
  intro E n' res h
  have a0 := ok.1.1
  have os := ok.2.2.1
  unfold OKS at os
  have z2 : zw (H 591 0 - 1) = H 591 0 - 1 := zw_lit (by omega) (by omega)
  by_cases q4 : 0 ≤ b ∧ b < H 591 0
  · have k0 := q4.1
    have k1 : b ≤ H 591 0 - 1 := by omega
    have k2 : ¬ b < 0 := by omega
    have k3 : ¬ H 591 0 - 1 < b := by omega
    have z3 : zw (26 * b) = 26 * b := zw_lit (by omega) (by omega)
    have z4 : zw (92 + 26 * b) = 92 + 26 * b := zw_lit (by omega) (by omega)
    have z5 : zw (92 + 26 * b + 12) = 92 + 26 * b + 12 := zw_lit (by omega) (by omega)
    by_cases q0 : 1 ≤ v
    · have q2 : ¬ v < 1 := by omega
      have h := call_runP 3 vm_X12_deliver h
      have h := xw_top (hd := []) 5 xD6_ok xc_X12_deliver xa_X12_deliver (t := 0) rfl h
      simp (maxDischargeDepth := 12) -implicitDefEqProofs [vb_X12_deliver_0, vb_X12_deliver_22, vb_X12_deliver_24, xI_0, xI_1, xI_7, xI_8, xI_14, xI_16, xI_34, xI_37, xI_45, xI_48, xI_49, xI_51, xI_52, xI_60, xI_61, xI_62, xw_X12_deliver_0, xw_X12_deliver_22, xw_X12_deliver_24, zw_lit, xB_c, xB_s, xB_n, i1_c, j2_c, k1_c, jJ_e, xlg, xls, xla, xpd, ppush, zw_m1, zw_m2, zw_m3, gf_12_0, tg_12_0, gv_590_0, xD1, xD2, xD3, xD4, xD5, xD6, xb1_0, z2, k0, k1, k2, k3, q0, q2] at h
      obtain ⟨r, H1, ⟨rfl, sc⟩, g⟩ := xc_use h (sp_X12_shedOf b H ⟨k0, by omega⟩ ok.1 ok.2.1 os.2.1)
      have mq := MQs_SCa sc
      have e591 := mq.2.2.1
      by_cases q1 : v ≤ shdA (H 591) b
      · have q3 : ¬ shdA (H 591) b < v := by omega
        simp (maxDischargeDepth := 12) -implicitDefEqProofs [vb_X12_deliver_0, vb_X12_deliver_22, vb_X12_deliver_24, xI_0, xI_1, xI_7, xI_8, xI_14, xI_16, xI_34, xI_37, xI_45, xI_48, xI_49, xI_51, xI_52, xI_60, xI_61, xI_62, xw_X12_deliver_0, xw_X12_deliver_22, xw_X12_deliver_24, zw_lit, xB_c, xB_s, xB_n, i1_c, j2_c, k1_c, jJ_e, xlg, xls, xla, xpd, ppush, zw_m1, zw_m2, zw_m3, gf_12_0, tg_12_0, gv_590_0, xD1, xD2, xD3, xD4, xD5, xD6, xb1_0, q1, q3] at g
        obtain ⟨r, H2, ⟨rfl, d1, d2, d3⟩, g⟩ := xc_use g (sp_X12_deed R n H1 hn (by rw [mq.2.2.2.1]; exact h2) (KPr_cell hK mq.2.2.2.2))
        have e2 : H2 591 = H 591 := by rw [d1.1 591 (by decide) (by decide)]; exact e591
        have n8 : ¬ (8 : Int) = 92 + 26 * b + 12 := by omega
        have n6 : ¬ (6 : Int) = 92 + 26 * b + 12 := by omega
        have n7 : ¬ (7 : Int) = 92 + 26 * b + 12 := by omega
        have n9 : ¬ (9 : Int) = 92 + 26 * b + 12 := by omega
        simp (maxDischargeDepth := 12) -implicitDefEqProofs [vb_X12_deliver_0, vb_X12_deliver_22, vb_X12_deliver_24, xI_0, xI_1, xI_7, xI_8, xI_14, xI_16, xI_34, xI_37, xI_45, xI_48, xI_49, xI_51, xI_52, xI_60, xI_61, xI_62, xw_X12_deliver_0, xw_X12_deliver_22, xw_X12_deliver_24, zw_lit, xB_c, xB_s, xB_n, i1_c, j2_c, k1_c, jJ_e, xlg, xls, xla, xpd, ppush, zw_m1, zw_m2, zw_m3, gf_12_0, tg_12_0, gv_590_0, xD1, xD2, xD3, xD4, xD5, xD6, xb1_0, z3, z4, z5, xp_at, xp_ne, e2, n8, n6, n7, n9] at g
        have ec : zw (max 0 (zw (H 591 8 - H 591 6)) * H 591 7) = chgA (H 591) := rfl
        rw [ec] at g
        exact ⟨_, _, g, Or.inl ⟨⟨q4, q0, q1⟩, rfl, MDs_q mq (MDs_deed d1 d2 d3 (fun c hc => by rw [xp_ne hc, xp_ne hc]) (by rw [pupC, pupC, e2]; rfl))⟩⟩
      · have q3 : shdA (H 591) b < v := by omega
        simp (maxDischargeDepth := 12) -implicitDefEqProofs [vb_X12_deliver_0, vb_X12_deliver_22, vb_X12_deliver_24, xI_0, xI_1, xI_7, xI_8, xI_14, xI_16, xI_34, xI_37, xI_45, xI_48, xI_49, xI_51, xI_52, xI_60, xI_61, xI_62, xw_X12_deliver_0, xw_X12_deliver_22, xw_X12_deliver_24, zw_lit, xB_c, xB_s, xB_n, i1_c, j2_c, k1_c, jJ_e, xlg, xls, xla, xpd, ppush, zw_m1, zw_m2, zw_m3, gf_12_0, tg_12_0, gv_590_0, xD1, xD2, xD3, xD4, xD5, xD6, xb1_0, q1, q3] at g
        exact ⟨_, _, g, Or.inr ⟨fun w => q1 w.2.2, rfl, mq⟩⟩
    · have q2 : v < 1 := by omega
      have h := call_runP 3 vm_X12_deliver h
      have h := xw_top (hd := []) 5 xD6_ok xc_X12_deliver xa_X12_deliver (t := 0) rfl h
      simp (maxDischargeDepth := 12) -implicitDefEqProofs [vb_X12_deliver_0, vb_X12_deliver_22, vb_X12_deliver_24, xI_0, xI_1, xI_7, xI_8, xI_14, xI_16, xI_34, xI_37, xI_45, xI_48, xI_49, xI_51, xI_52, xI_60, xI_61, xI_62, xw_X12_deliver_0, xw_X12_deliver_22, xw_X12_deliver_24, zw_lit, xB_c, xB_s, xB_n, i1_c, j2_c, k1_c, jJ_e, xlg, xls, xla, xpd, ppush, zw_m1, zw_m2, zw_m3, gf_12_0, tg_12_0, gv_590_0, xD1, xD2, xD3, xD4, xD5, xD6, xb1_0, z2, k0, k1, k2, k3, q0, q2] at h
      exact ⟨_, _, h, Or.inr ⟨fun w => q0 w.2.1, rfl, MQs_refl⟩⟩
  · by_cases k0 : 0 ≤ b
    · have k1 : ¬ b ≤ H 591 0 - 1 := by omega
      have k2 : ¬ b < 0 := by omega
      have k3 : H 591 0 - 1 < b := by omega
      have h := call_runP 3 vm_X12_deliver h
      have h := xw_top (hd := []) 5 xD6_ok xc_X12_deliver xa_X12_deliver (t := 0) rfl h
      simp (maxDischargeDepth := 12) -implicitDefEqProofs [vb_X12_deliver_0, vb_X12_deliver_22, vb_X12_deliver_24, xI_0, xI_1, xI_7, xI_8, xI_14, xI_16, xI_34, xI_37, xI_45, xI_48, xI_49, xI_51, xI_52, xI_60, xI_61, xI_62, xw_X12_deliver_0, xw_X12_deliver_22, xw_X12_deliver_24, zw_lit, xB_c, xB_s, xB_n, i1_c, j2_c, k1_c, jJ_e, xlg, xls, xla, xpd, ppush, zw_m1, zw_m2, zw_m3, gf_12_0, tg_12_0, gv_590_0, xD1, xD2, xD3, xD4, xD5, xD6, xb1_0, z2, k0, k1, k2, k3] at h
      exact ⟨_, _, h, Or.inr ⟨fun w => q4 w.1, rfl, MQs_refl⟩⟩
    · have k2 : b < 0 := by omega
      have h := call_runP 3 vm_X12_deliver h
      have h := xw_top (hd := []) 5 xD6_ok xc_X12_deliver xa_X12_deliver (t := 0) rfl h
      simp (maxDischargeDepth := 12) -implicitDefEqProofs [vb_X12_deliver_0, vb_X12_deliver_22, vb_X12_deliver_24, xI_0, xI_1, xI_7, xI_8, xI_14, xI_16, xI_34, xI_37, xI_45, xI_48, xI_49, xI_51, xI_52, xI_60, xI_61, xI_62, xw_X12_deliver_0, xw_X12_deliver_22, xw_X12_deliver_24, zw_lit, xB_c, xB_s, xB_n, i1_c, j2_c, k1_c, jJ_e, xlg, xls, xla, xpd, ppush, zw_m1, zw_m2, zw_m3, gf_12_0, tg_12_0, gv_590_0, xD1, xD2, xD3, xD4, xD5, xD6, xb1_0, z2, k0, k2] at h
      exact ⟨_, _, h, Or.inr ⟨fun w => q4 w.1, rfl, MQs_refl⟩⟩
set_option maxRecDepth 100000 in
theorem lp_mstr (k : Int) (hk : 0 ≤ k ∧ k < 60) {E : xE} {res : xR} (H0 : PH) (hz : zIn (H0 591 2)) : ∀ (n : Nat) (i : Int) (H : PH), 404 + 12 * k ≤ i → i ≤ 1112 → (∀ c, ¬ c = 591 → H c = H0 c) → (∀ j, H 591 j = if 404 + 12 * k ≤ j ∧ j < i then H0 591 (j + 12) else H0 591 j) → RUN E res n kd_X12_strike (zget kd_X12_strike 19) 19 [590, k, i] [] H → ∃ H' : PH, (∀ c, ¬ c = 591 → H' c = H0 c) ∧ (∀ j, H' 591 j = if j = 2 then zw (H0 591 2 - 1) else if 404 + 12 * k ≤ j ∧ j < 1112 then H0 591 (j + 12) else H0 591 j) ∧ REPR E res (some (0, zw (H0 591 2 - 1))) H' := by
  intro n
  induction n using Nat.strongRecOn with
  | _ n ih =>
    intro i H i0 i1 hF hJ h
    have z1 : zw (i + 1) = i + 1 := zw_lit (by omega) (by omega)
    have z12 : zw (i + 12) = i + 12 := zw_lit (by omega) (by omega)
    have e2 : H 591 2 = H0 591 2 := by rw [hJ 2, if_neg (by omega)]
    by_cases c : i < 1112
    · have c1 : i + 12 < 1124 := by omega
      have c' : ¬ 1124 ≤ i + 12 := by omega
      have h := xw_top (hd := [19]) 6 xD6_ok xc_X12_strike xa_X12_strike (t := 19) rfl h
      simp (maxDischargeDepth := 12) -implicitDefEqProofs [vb_X12_strike_0, vb_X12_strike_10, vb_X12_strike_19, vb_X12_strike_50, xI_0, xI_1, xI_3, xI_6, xI_7, xI_8, xI_9, xI_14, xI_15, xI_34, xI_36, xI_38, xI_46, xI_49, xI_51, xI_52, xI_60, xI_61, xI_62, xw_X12_strike_0, xw_X12_strike_10, xw_X12_strike_19, xw_X12_strike_50, zw_lit, xB_c, xB_s, xB_n, i1_c, j2_c, k1_c, jJ_e, xlg, xls, xla, xpd, ppush, zw_m1, zw_m2, zw_m3, gf_12_0, tg_12_0, gv_590_0, xD1, xD2, xD3, xD4, xD5, xD6, xb1_0, z1, z12, c1, c'] at h
      obtain ⟨m, hm, h⟩ := h
      refine ih m hm (i + 1) _ (by omega) (by omega) (fun d hd => by rw [xp_ne hd]; exact hF d hd) (fun j => ?_) h
      rw [xp_at]
      by_cases e : j = i
      · rw [if_pos e, hJ (i + 12), if_neg (by omega), if_pos (by omega), e]
      · rw [if_neg e, hJ j]
        by_cases p : 404 + 12 * k ≤ j ∧ j < i
        · rw [if_pos p, if_pos (by omega)]
        · rw [if_neg p, if_neg (by omega)]
    · have c1 : ¬ i + 12 < 1124 := by omega
      have c' : 1124 ≤ i + 12 := by omega
      have ei : i = 1112 := by omega
      have h := xw_top (hd := [19]) 6 xD6_ok xc_X12_strike xa_X12_strike (t := 19) rfl h
      simp (maxDischargeDepth := 12) -implicitDefEqProofs [vb_X12_strike_0, vb_X12_strike_10, vb_X12_strike_19, vb_X12_strike_50, xI_0, xI_1, xI_3, xI_6, xI_7, xI_8, xI_9, xI_14, xI_15, xI_34, xI_36, xI_38, xI_46, xI_49, xI_51, xI_52, xI_60, xI_61, xI_62, xw_X12_strike_0, xw_X12_strike_10, xw_X12_strike_19, xw_X12_strike_50, zw_lit, xB_c, xB_s, xB_n, i1_c, j2_c, k1_c, jJ_e, xlg, xls, xla, xpd, ppush, zw_m1, zw_m2, zw_m3, gf_12_0, tg_12_0, gv_590_0, xD1, xD2, xD3, xD4, xD5, xD6, xb1_0, z1, z12, c1, c', e2, xp_at] at h
      refine ⟨_, fun d hd => by rw [xp_ne hd]; exact hF d hd, fun j => ?_, h⟩
      rw [xp_at, hJ j, ei]
set_option maxRecDepth 100000 in
theorem sp_m_strike (k : Int) (R : Int → Int → Int) (n : Int) (H : PH) (ok : OKR (H 591)) (hn : 0 ≤ n ∧ n ≤ 20) (h2 : H 590 2 = n) (hK : KPr R n H) : SPEC 266 [(2, 590), (0, k)] H (fun r H' => ((0 ≤ k ∧ k < H 591 2) ∧ r = some (0, H 591 2 - 1) ∧ MDs H H' R n (strA (H 591) k)) ∨ (¬ (0 ≤ k ∧ k < H 591 2) ∧ r = some (0, -1) ∧ H' = H)) := by
  intro E n' res h
  have a2 := ok.1.2.2.1
  have z2 : zw (H 591 2 - 1) = H 591 2 - 1 := zw_lit (by omega) (by omega)
  by_cases q : 0 ≤ k ∧ k < H 591 2
  · have k0 := q.1
    have k1 : k ≤ H 591 2 - 1 := by omega
    have k2 : ¬ k < 0 := by omega
    have k3 : ¬ H 591 2 - 1 < k := by omega
    have z3 : zw (12 * k) = 12 * k := zw_lit (by omega) (by omega)
    have z4 : zw (404 + 12 * k) = 404 + 12 * k := zw_lit (by omega) (by omega)
    have h := call_runP 3 vm_X12_strike h
    have h := xw_top (hd := [19]) 6 xD6_ok xc_X12_strike xa_X12_strike (t := 0) rfl h
    simp (maxDischargeDepth := 12) -implicitDefEqProofs [vb_X12_strike_0, vb_X12_strike_10, vb_X12_strike_19, vb_X12_strike_50, xI_0, xI_1, xI_3, xI_6, xI_7, xI_8, xI_9, xI_14, xI_15, xI_34, xI_36, xI_38, xI_46, xI_49, xI_51, xI_52, xI_60, xI_61, xI_62, xw_X12_strike_0, xw_X12_strike_10, xw_X12_strike_19, xw_X12_strike_50, zw_lit, xB_c, xB_s, xB_n, i1_c, j2_c, k1_c, jJ_e, xlg, xls, xla, xpd, ppush, zw_m1, zw_m2, zw_m3, gf_12_0, tg_12_0, gv_590_0, xD1, xD2, xD3, xD4, xD5, xD6, xb1_0, z2, k0, k1, k2, k3] at h
    obtain ⟨r, H1, ⟨rfl, d1, d2, d3⟩, g⟩ := xc_use h (sp_X12_deed R n H hn h2 hK)
    have e591 : H1 591 = H 591 := d1.1 591 (by decide) (by decide)
    simp (maxDischargeDepth := 12) -implicitDefEqProofs [vb_X12_strike_0, vb_X12_strike_10, vb_X12_strike_19, vb_X12_strike_50, xI_0, xI_1, xI_3, xI_6, xI_7, xI_8, xI_9, xI_14, xI_15, xI_34, xI_36, xI_38, xI_46, xI_49, xI_51, xI_52, xI_60, xI_61, xI_62, xw_X12_strike_0, xw_X12_strike_10, xw_X12_strike_19, xw_X12_strike_50, zw_lit, xB_c, xB_s, xB_n, i1_c, j2_c, k1_c, jJ_e, xlg, xls, xla, xpd, ppush, zw_m1, zw_m2, zw_m3, gf_12_0, tg_12_0, gv_590_0, xD1, xD2, xD3, xD4, xD5, xD6, xb1_0, z3, z4] at g
    obtain ⟨m, hm, g⟩ := g
    obtain ⟨H', j1, j2, j3⟩ := lp_mstr k ⟨k0, by omega⟩ H1 (by rw [e591]; exact ok.1.2.2.2.2.2.2 2 (by decide) (by decide)) m (404 + 12 * k) H1 (by omega) (by omega) (fun c _ => rfl) (fun j => by rw [if_neg (by omega)]) g
    rw [e591, z2] at j3
    refine ⟨_, H', j3, Or.inl ⟨q, rfl, MDs_deed d1 d2 d3 j1 ?_⟩⟩
    funext j
    rw [j2 j, e591, z2]
    rfl
  · by_cases k0 : 0 ≤ k
    · have k1 : ¬ k ≤ H 591 2 - 1 := by omega
      have k2 : ¬ k < 0 := by omega
      have k3 : H 591 2 - 1 < k := by omega
      have h := call_runP 3 vm_X12_strike h
      have h := xw_top (hd := [19]) 6 xD6_ok xc_X12_strike xa_X12_strike (t := 0) rfl h
      simp (maxDischargeDepth := 12) -implicitDefEqProofs [vb_X12_strike_0, vb_X12_strike_10, vb_X12_strike_19, vb_X12_strike_50, xI_0, xI_1, xI_3, xI_6, xI_7, xI_8, xI_9, xI_14, xI_15, xI_34, xI_36, xI_38, xI_46, xI_49, xI_51, xI_52, xI_60, xI_61, xI_62, xw_X12_strike_0, xw_X12_strike_10, xw_X12_strike_19, xw_X12_strike_50, zw_lit, xB_c, xB_s, xB_n, i1_c, j2_c, k1_c, jJ_e, xlg, xls, xla, xpd, ppush, zw_m1, zw_m2, zw_m3, gf_12_0, tg_12_0, gv_590_0, xD1, xD2, xD3, xD4, xD5, xD6, xb1_0, z2, k0, k1, k2, k3] at h
      exact ⟨_, _, h, Or.inr ⟨q, rfl, rfl⟩⟩
    · have k2 : k < 0 := by omega
      have h := call_runP 3 vm_X12_strike h
      have h := xw_top (hd := [19]) 6 xD6_ok xc_X12_strike xa_X12_strike (t := 0) rfl h
      simp (maxDischargeDepth := 12) -implicitDefEqProofs [vb_X12_strike_0, vb_X12_strike_10, vb_X12_strike_19, vb_X12_strike_50, xI_0, xI_1, xI_3, xI_6, xI_7, xI_8, xI_9, xI_14, xI_15, xI_34, xI_36, xI_38, xI_46, xI_49, xI_51, xI_52, xI_60, xI_61, xI_62, xw_X12_strike_0, xw_X12_strike_10, xw_X12_strike_19, xw_X12_strike_50, zw_lit, xB_c, xB_s, xB_n, i1_c, j2_c, k1_c, jJ_e, xlg, xls, xla, xpd, ppush, zw_m1, zw_m2, zw_m3, gf_12_0, tg_12_0, gv_590_0, xD1, xD2, xD3, xD4, xD5, xD6, xb1_0, z2, k0, k2] at h
      exact ⟨_, _, h, Or.inr ⟨q, rfl, rfl⟩⟩
set_option maxRecDepth 100000 in
theorem lp_mback (x d : Int) (hd : 0 ≤ d ∧ d ≤ 19) {E : xE} {res : xR} (H0 : PH) (h2 : H0 590 2 = d) : ∀ (n : Nat) (k : Int) (H : PH), 0 ≤ k → k ≤ 1124 → (∀ c, ¬ c = 591 → H c = H0 c) → (∀ j, 0 ≤ j → j < k → H 591 j = H0 592 (1124 * d + j)) → RUN E res n kd_X12_back (zget kd_X12_back 21) 21 [590, k] [] H → ∃ H' : PH, (∀ c, ¬ c = 591 → H' c = H0 c) ∧ (∀ j, 0 ≤ j → j < 1124 → H' 591 j = H0 592 (1124 * d + j)) ∧ REPR E res (some (0, d)) H' := by
  intro n
  induction n using Nat.strongRecOn with
  | _ n ih =>
    intro k H k0 k1 hF hJ h
    have z1 : zw (k + 1) = k + 1 := zw_lit (by omega) (by omega)
    have z2 : zw (1124 * d) = 1124 * d := zw_lit (by omega) (by omega)
    have z3 : zw (1124 * d + k) = 1124 * d + k := zw_lit (by omega) (by omega)
    have e2 : H 590 2 = d := by rw [hF 590 (by decide)]; exact h2
    by_cases c : k < 1124
    · have c' : ¬ 1124 ≤ k := by omega
      have h := xw_top (hd := [21]) 6 xD6_ok xc_X12_back xa_X12_back (t := 21) rfl h
      simp (maxDischargeDepth := 12) -implicitDefEqProofs [vb_X12_back_0, vb_X12_back_9, vb_X12_back_21, vb_X12_back_55, xI_0, xI_1, xI_3, xI_6, xI_7, xI_9, xI_14, xI_15, xI_16, xI_33, xI_36, xI_38, xI_46, xI_49, xI_50, xI_51, xI_52, xI_62, xw_X12_back_0, xw_X12_back_9, xw_X12_back_21, xw_X12_back_55, zw_lit, xB_c, xB_s, xB_n, i1_c, j2_c, k1_c, jJ_e, xlg, xls, xla, xpd, ppush, zw_m1, zw_m2, zw_m3, gf_12_0, gf_12_1, gf_12_2, pf_12_2, tg_12_0, tg_12_1, tg_12_2, gv_590_0, gv_590_1, gv_590_2, xD1, xD2, xD3, xD4, xD5, xD6, xb1_0, z1, z2, z3, e2, c, c'] at h
      obtain ⟨m, hm, h⟩ := h
      refine ih m hm (k + 1) _ (by omega) (by omega) (fun d hd => by rw [xp_ne hd]; exact hF d hd) (fun j j0 j1 => ?_) h
      rw [xp_at]
      by_cases e : j = k
      · rw [if_pos e, hF 592 (by decide), e]
      · rw [if_neg e]
        exact hJ j j0 (by omega)
    · have c' : 1124 ≤ k := by omega
      have h := xw_top (hd := [21]) 6 xD6_ok xc_X12_back xa_X12_back (t := 21) rfl h
      simp (maxDischargeDepth := 12) -implicitDefEqProofs [vb_X12_back_0, vb_X12_back_9, vb_X12_back_21, vb_X12_back_55, xI_0, xI_1, xI_3, xI_6, xI_7, xI_9, xI_14, xI_15, xI_16, xI_33, xI_36, xI_38, xI_46, xI_49, xI_50, xI_51, xI_52, xI_62, xw_X12_back_0, xw_X12_back_9, xw_X12_back_21, xw_X12_back_55, zw_lit, xB_c, xB_s, xB_n, i1_c, j2_c, k1_c, jJ_e, xlg, xls, xla, xpd, ppush, zw_m1, zw_m2, zw_m3, gf_12_0, gf_12_1, gf_12_2, pf_12_2, tg_12_0, tg_12_1, tg_12_2, gv_590_0, gv_590_1, gv_590_2, xD1, xD2, xD3, xD4, xD5, xD6, xb1_0, e2, c, c'] at h
      exact ⟨H, hF, fun j j0 j1 => hJ j j0 (by omega), h⟩
set_option maxRecDepth 100000 in
theorem sp_m_back (R : Int → Int → Int) (n : Int) (H : PH) (hn : 0 ≤ n ∧ n ≤ 20) (h2 : H 590 2 = n) (hK : KPr R n H) : SPEC 159 [(2, 590)] H (fun r H' => (1 ≤ n ∧ r = some (0, n - 1) ∧ MO H H' ∧ H' 590 4 = H 590 4 ∧ (∀ j, 0 ≤ j → j < 1124 → H' 591 j = R (n - 1) j) ∧ H' 590 2 = n - 1 ∧ KPr R (n - 1) H') ∨ (n = 0 ∧ r = some (0, -1) ∧ H' = H)) := by
  intro E n' res h
  by_cases q : n = 0
  · have e2 : H 590 2 = 0 := by omega
    have h := call_runP 2 vm_X12_back h
    have h := xw_top (hd := [21]) 6 xD6_ok xc_X12_back xa_X12_back (t := 0) rfl h
    simp (maxDischargeDepth := 12) -implicitDefEqProofs [vb_X12_back_0, vb_X12_back_9, vb_X12_back_21, vb_X12_back_55, xI_0, xI_1, xI_3, xI_6, xI_7, xI_9, xI_14, xI_15, xI_16, xI_33, xI_36, xI_38, xI_46, xI_49, xI_50, xI_51, xI_52, xI_62, xw_X12_back_0, xw_X12_back_9, xw_X12_back_21, xw_X12_back_55, zw_lit, xB_c, xB_s, xB_n, i1_c, j2_c, k1_c, jJ_e, xlg, xls, xla, xpd, ppush, zw_m1, zw_m2, zw_m3, gf_12_0, gf_12_1, gf_12_2, pf_12_2, tg_12_0, tg_12_1, tg_12_2, gv_590_0, gv_590_1, gv_590_2, xD1, xD2, xD3, xD4, xD5, xD6, xb1_0, e2] at h
    exact ⟨_, _, h, Or.inr ⟨q, rfl, rfl⟩⟩
  · have e2 : ¬ H 590 2 = 0 := by omega
    have z1 : zw (H 590 2 - 1) = n - 1 := by rw [h2]; exact zw_lit (by omega) (by omega)
    have h := call_runP 2 vm_X12_back h
    have h := xw_top (hd := [21]) 6 xD6_ok xc_X12_back xa_X12_back (t := 0) rfl h
    simp (maxDischargeDepth := 12) -implicitDefEqProofs [vb_X12_back_0, vb_X12_back_9, vb_X12_back_21, vb_X12_back_55, xI_0, xI_1, xI_3, xI_6, xI_7, xI_9, xI_14, xI_15, xI_16, xI_33, xI_36, xI_38, xI_46, xI_49, xI_50, xI_51, xI_52, xI_62, xw_X12_back_0, xw_X12_back_9, xw_X12_back_21, xw_X12_back_55, zw_lit, xB_c, xB_s, xB_n, i1_c, j2_c, k1_c, jJ_e, xlg, xls, xla, xpd, ppush, zw_m1, zw_m2, zw_m3, gf_12_0, gf_12_1, gf_12_2, pf_12_2, tg_12_0, tg_12_1, tg_12_2, gv_590_0, gv_590_1, gv_590_2, xD1, xD2, xD3, xD4, xD5, xD6, xb1_0, e2, z1] at h
    obtain ⟨m, hm, h⟩ := h
    obtain ⟨H', j1, j2, j3⟩ := lp_mback 0 (n - 1) (by omega) (pup H 590 2 (n - 1)) (by rw [xp_at, if_pos rfl]) m 0 _ (by omega) (by omega) (fun c _ => rfl) (fun j j0 j1 => by omega) h
    refine ⟨_, H', j3, Or.inl ⟨by omega, rfl, ⟨fun c hc => by rw [j1 c (by omega), xp_ne (by omega)], ⟨by rw [j1 590 (by decide), xp_at, if_neg (by decide)], by rw [j1 621 (by decide), xp_ne (by decide)]⟩, by rw [j1 593 (by decide), xp_ne (by decide)]⟩, by rw [j1 590 (by decide), xp_at, if_neg (by decide)], fun j j0 j9 => ?_, by rw [j1 590 (by decide), xp_at, if_pos rfl], ?_⟩⟩
    · rw [j2 j j0 j9, xp_ne (by decide)]
      exact hK (n - 1) j (by omega) (by omega) j0 j9
    · intro i k i0 i1 k0 k1
      rw [j1 592 (by decide), xp_ne (by decide)]
      exact hK i k i0 (by omega) k0 k1
