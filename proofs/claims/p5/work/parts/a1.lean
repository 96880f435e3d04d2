theorem gf_2_5 : gfOK 2 5 = true := by decide +kernel
theorem pf_2_197 : pfOK 2 197 = true := by decide +kernel
def xm_X11_strike : List xbT := [(0, vb_X11_strike_0, some 10), (10, vb_X11_strike_10, none)]
theorem xc_X11_strike : xOK kd_X11_strike xm_X11_strike := ⟨ve_X11_strike_0, ve_X11_strike_10, trivial⟩
theorem xa_X11_strike : xm_X11_strike.all (fun q => aOKb q.2.1 && !q.2.1.isEmpty) = true := by decide +kernel
theorem xw_X11_strike_0 {E : xE} {res : xR} {N : Nat} {hd : List Nat} {C : xCT} {k : Nat} {L : List Int} {st : List pv} {H : PH} : xW E res N kd_X11_strike xm_X11_strike hd C (k + 1) 0 L st H = xB (fun t L st H => if t ∈ hd then xJ E res N kd_X11_strike t L st H else xW E res N kd_X11_strike xm_X11_strike hd C k t L st H) (REPR E res) C (some 10) vb_X11_strike_0 0 L st H := Eq.trans rfl rfl
theorem xw_X11_strike_10 {E : xE} {res : xR} {N : Nat} {hd : List Nat} {C : xCT} {k : Nat} {L : List Int} {st : List pv} {H : PH} : xW E res N kd_X11_strike xm_X11_strike hd C (k + 1) 10 L st H = xB (fun t L st H => if t ∈ hd then xJ E res N kd_X11_strike t L st H else xW E res N kd_X11_strike xm_X11_strike hd C k t L st H) (REPR E res) C (none) vb_X11_strike_10 10 L st H := Eq.trans rfl rfl
def xm_X1_takeOut : List xbT := [(0, vb_X1_takeOut_0, some 20), (20, vb_X1_takeOut_20, some 51), (51, vb_X1_takeOut_51, none)]
theorem xc_X1_takeOut : xOK kd_X1_takeOut xm_X1_takeOut := ⟨ve_X1_takeOut_0, ve_X1_takeOut_20, ve_X1_takeOut_51, trivial⟩
theorem xa_X1_takeOut : xm_X1_takeOut.all (fun q => aOKb q.2.1 && !q.2.1.isEmpty) = true := by decide +kernel
theorem xw_X1_takeOut_0 {E : xE} {res : xR} {N : Nat} {hd : List Nat} {C : xCT} {k : Nat} {L : List Int} {st : List pv} {H : PH} : xW E res N kd_X1_takeOut xm_X1_takeOut hd C (k + 1) 0 L st H = xB (fun t L st H => if t ∈ hd then xJ E res N kd_X1_takeOut t L st H else xW E res N kd_X1_takeOut xm_X1_takeOut hd C k t L st H) (REPR E res) C (some 20) vb_X1_takeOut_0 0 L st H := Eq.trans rfl rfl
theorem xw_X1_takeOut_20 {E : xE} {res : xR} {N : Nat} {hd : List Nat} {C : xCT} {k : Nat} {L : List Int} {st : List pv} {H : PH} : xW E res N kd_X1_takeOut xm_X1_takeOut hd C (k + 1) 20 L st H = xB (fun t L st H => if t ∈ hd then xJ E res N kd_X1_takeOut t L st H else xW E res N kd_X1_takeOut xm_X1_takeOut hd C k t L st H) (REPR E res) C (some 51) vb_X1_takeOut_20 20 L st H := Eq.trans rfl rfl
theorem xw_X1_takeOut_51 {E : xE} {res : xR} {N : Nat} {hd : List Nat} {C : xCT} {k : Nat} {L : List Int} {st : List pv} {H : PH} : xW E res N kd_X1_takeOut xm_X1_takeOut hd C (k + 1) 51 L st H = xB (fun t L st H => if t ∈ hd then xJ E res N kd_X1_takeOut t L st H else xW E res N kd_X1_takeOut xm_X1_takeOut hd C k t L st H) (REPR E res) C (none) vb_X1_takeOut_51 51 L st H := Eq.trans rfl rfl
/-! a delivery, a text -/
theorem zw_zIn (x : Int) : zIn (zw x) := by
  have := zw_rg x
  unfold zIn
  omega
theorem zw_back {x v : Int} (h : zIn x) : zw (zw (x + v) - v) = x := by
  unfold zIn at h
  unfold zw
  omega
def dlA (A : Int → Int) (b v : Int) : Int → Int := xup (xup A (92 + 26 * b + 12) (zw (A (92 + 26 * b + 12) + v))) 9 (zw (A 9 + zw (v * chgA A)))
theorem mcc_of {A : Int → Int} {H : PH} (a : TCf A H) (b : MCf A H) (c : ¬ H 215 1 = 0) : MCC A H := ⟨fun _ => a, fun _ => ⟨c, b⟩⟩
set_option maxRecDepth 100000 in
theorem sp_c_deliver (b v : Int) (S : Int → Int → Int) (n : Int) (H : PH) (hR : RC H S n) (hM : MCC (S 0) H) : SPEC 137 [(2, 0), (0, b), (0, v)] H (fun r H' => (((0 ≤ b ∧ b < S 0 0) ∧ (1 ≤ v ∧ v ≤ shdA (S 0) b)) ∧ r = some (0, zw (v * chgA (S 0))) ∧ CD H H' S n (dlA (S 0) b v)) ∨ (¬ ((0 ≤ b ∧ b < S 0 0) ∧ (1 ≤ v ∧ v ≤ shdA (S 0) b)) ∧ r = some (0, -1) ∧ CQ H H' S n)) := by
  intro E n' res h
  obtain ⟨x1, x2, ld, x4, h8, x6, x7⟩ := id hR
  have ok0 := x6 0 (by decide) x4.1.1
  have a0 := ok0.1.1
  have lx := dnx_in h8
  obtain ⟨s0, s1, s2, s3, s4, s5, s6, s7, s8, s9⟩ := id x1.1.1
  have os := ok0.2.2.1
  unfold OKS at os
  have z2 : zw (H 1 2 - 1) = H 1 2 - 1 := zw_lit (by omega) (by omega)
  by_cases q4 : 0 ≤ b ∧ b < S 0 0
  · have k0 := q4.1
    have k1 : b ≤ H 1 2 - 1 := by omega
    have k2 : ¬ b < 0 := by omega
    have k3 : ¬ H 1 2 - 1 < b := by omega
    have g46 : ∀ X : PH, gv X 46 b = 57 + 3 * b := fun X => gv46 k0 (by omega)
    have kbc := KB_of (b := b) k0 (by omega)
    have kb : ∀ X : PH, gv X (57 + 3 * b) 4 = X (57 + 3 * b) 4 := (KB_f kbc).2.2.2.2.2.2.1
    have h := call_runP 4 vm_X11_deliver h
    have h := xw_top (hd := []) 5 xD6_ok xc_X11_deliver xa_X11_deliver (t := 0) rfl h
    simp (maxDischargeDepth := 12) -implicitDefEqProofs [vb_X11_deliver_0, vb_X11_deliver_10, vb_X11_deliver_29, xI_0, xI_1, xI_3, xI_7, xI_8, xI_14, xI_16, xI_33, xI_35, xI_38, xI_49, xI_50, xI_53, xI_60, xI_61, xI_62, xw_X11_deliver_0, xw_X11_deliver_10, xw_X11_deliver_29, zw_lit, xB_c, xB_s, xB_n, i1_c, j2_c, k1_c, jJ_e, xlg, xls, xla, xpd, ppush, zw_m1, zw_m2, zw_m3, gf_0_4, gf_1_1, gf_1_13, gf_11_0, pf_0_4, pf_1_13, tg_0_4, tg_11_0, tg_1_1, tg_1_13, gv_1_1, gv_1_13, gv_0_0, xD1, xD2, xD3, xD4, xD5, xD6, xb1_0, z2, k0, k1, k2, k3] at h
    obtain ⟨r, H1, ⟨rfl, m1, m2, m3, m4, m5, m6⟩, h⟩ := xc_use h (sp_X11_matchAll (S 0) H ok0.1 ok0.2.1 os.1 os.2.1 x1 hM)
    have cq : CQ H H1 S n := CQ_AF hR m6 m1 (mcc_of m2 m3 m4)
    obtain ⟨y1, y2, ld1, y4, h81, y6, y7⟩ := id cq.1
    have lx1 := dnx_in h81
    obtain ⟨t0, t1, t2, t3, t4, t5, t6, t7, t8, t9⟩ := id y1.1.1
    obtain ⟨r, H2, ⟨rfl, rfl⟩, g⟩ := xc_use h (sp_X11_balesInShed (S 0) b H1 ok0.1 os.2.1 m1 m2 m3 q4)
    by_cases q5 : 1 ≤ v ∧ v ≤ shdA (S 0) b
    · have q0 := q5.1
      have q1 := q5.2
      have q2 : ¬ v < 1 := by omega
      have q3 : ¬ shdA (S 0) b < v := by omega
      have ec : zw (max 0 (zw (H2 1 10 - H2 1 11)) * H2 1 12) = chgA (S 0) := by
        unfold chgA
        rw [t8, t6, t7]
      simp (maxDischargeDepth := 12) -implicitDefEqProofs [vb_X11_deliver_0, vb_X11_deliver_10, vb_X11_deliver_29, xI_0, xI_1, xI_3, xI_7, xI_8, xI_14, xI_16, xI_33, xI_35, xI_38, xI_49, xI_50, xI_53, xI_60, xI_61, xI_62, xw_X11_deliver_0, xw_X11_deliver_10, xw_X11_deliver_29, zw_lit, xB_c, xB_s, xB_n, i1_c, j2_c, k1_c, jJ_e, xlg, xls, xla, xpd, ppush, zw_m1, zw_m2, zw_m3, gf_0_4, gf_1_1, gf_1_13, gf_11_0, pf_0_4, pf_1_13, tg_0_4, tg_11_0, tg_1_1, tg_1_13, gv_1_1, gv_1_13, gv_0_0, xD1, xD2, xD3, xD4, xD5, xD6, xb1_0, q0, q1, q2, q3, ec] at g
      obtain ⟨r, H1, ⟨rfl, rfl⟩, g⟩ := xc_use g (sp_nd 10 b v (zw (v * chgA (S 0))) H2 (by omega) h81)
      have n1 : ndHx H2 10 b v (zw (v * chgA (S 0))) 1 = H2 1 := nd_ne h81 (by decide) (by omega) (by decide) (by decide) (by decide)
      have nb : ndHx H2 10 b v (zw (v * chgA (S 0))) (57 + 3 * b) = H2 (57 + 3 * b) := nd_ne h81 (by omega) (by omega) (by omega) (by omega) (by omega)
      have n57 : ¬ (1 : Int) = 57 + 3 * b := by omega
      simp (maxDischargeDepth := 12) -implicitDefEqProofs [vb_X11_deliver_0, vb_X11_deliver_10, vb_X11_deliver_29, xI_0, xI_1, xI_3, xI_7, xI_8, xI_14, xI_16, xI_33, xI_35, xI_38, xI_49, xI_50, xI_53, xI_60, xI_61, xI_62, xw_X11_deliver_0, xw_X11_deliver_10, xw_X11_deliver_29, zw_lit, xB_c, xB_s, xB_n, i1_c, j2_c, k1_c, jJ_e, xlg, xls, xla, xpd, ppush, zw_m1, zw_m2, zw_m3, gf_0_4, gf_1_1, gf_1_13, gf_11_0, pf_0_4, pf_1_13, tg_0_4, tg_11_0, tg_1_1, tg_1_13, gv_1_1, gv_1_13, gv_0_0, xD1, xD2, xD3, xD4, xD5, xD6, xb1_0, g46, kb, n1, nb, xp_at, xp_ne, n57] at g
      have gb := y1.1.2.1 b k0 q4.2
      have gn : BRr (57 + 3 * b) (ndHx H2 10 b v (zw (v * chgA (S 0)))) (S 0) (92 + 26 * b) := (CI_nd' ok0.1 y1 h81).1.2.1 b k0 q4.2
      have e4 := gb.2.2.2.2.1
      have na := nd_at (H := H2) (k := 10) (a := b) (b := v) (d := zw (v * chgA (S 0))) h81
      refine ⟨_, _, g, Or.inl ⟨⟨q4, q5⟩, rfl, CQ_CD cq ?_⟩⟩
      have s8' := ok0.1.2.2.2.1 b k0 (by omega)
      have r6 := ok0.1.2.2.2.2.1 b k0 (by omega)
      have B0 : ∀ j, ¬ j = 9 → ¬ j = 92 + 26 * b + 12 → dlA (S 0) b v j = S 0 j := fun j j1 j2 => by unfold dlA; rw [xup_n j1, xup_n j2]
      have B9 : dlA (S 0) b v 9 = zw (S 0 9 + zw (v * chgA (S 0))) := xup_a
      have B12 : dlA (S 0) b v (92 + 26 * b + 12) = zw (S 0 (92 + 26 * b + 12) + v) := by unfold dlA; rw [xup_n (by omega), xup_a]
      refine CD_bill (k := 10) (a := b) (b := v) (d := zw (v * chgA (S 0))) (u := b) cq.1 q4 (fun c c1 c2 _ _ => by rw [xp_ne c1, xp_ne c2]) (fun i hi => by rw [xp_at, if_neg hi, xp_ne n57, n1]) (fun i hi h9 => B0 i h9 (by omega)) ?_ ?_ ?_ ?_
      · rw [B9, xp_at, if_pos rfl, t9]
      · have e : ∀ i, pup (pup (ndHx H2 10 b v (zw (v * chgA (S 0)))) (57 + 3 * b) 4 (zw (H2 (57 + 3 * b) 4 + v))) 1 13 (zw (H2 1 13 + zw (v * chgA (S 0)))) (57 + 3 * b) i = if i = 4 then zw (H2 (57 + 3 * b) 4 + v) else H2 (57 + 3 * b) i := fun i => by rw [xp_ne (by omega), xp_at, nb]
        obtain ⟨t1, t2, t3, t4, t5, t6, t7⟩ := gn
        rw [nb] at t1 t2 t3 t4 t5 t6 t7
        unfold BRr
        rw [e, e, e, e, e, e, if_neg (by decide), if_neg (by decide), if_neg (by decide), if_pos rfl, if_neg (by decide), if_neg (by decide), xp_ne (by omega), xp_ne (by omega), xp_ne (by omega), xp_ne (by omega), B0 _ (by omega) (by omega), B0 _ (by omega) (by omega), B0 _ (by omega) (by omega), B0 _ (by omega) (by omega), B12, B0 _ (by omega) (by omega)]
        exact ⟨VM_congr t1 rfl (fun i i0 i1 => (B0 _ (by omega) (by omega)).symm), t2, t3, t4, by rw [e4], t6, fun i i0 i1 => by rw [B0 _ (by omega) (by omega), B0 _ (by omega) (by omega)]; exact t7 i i0 i1⟩
      · have o1 : OKR (xup (S 0) (92 + 26 * b + 12) (zw (S 0 (92 + 26 * b + 12) + v))) := ⟨MB_xup ok0.1 (by omega) (fun m m0 m1 => ⟨by omega, fun w => by omega⟩) (fun k k0 k1 => by omega) (zw_zIn _), ML_xup ok0.2.1 (by omega), OKS_xup ok0.2.2.1 (by omega), OKX_xup ok0.1 ok0.2.2.2 (by omega) (fun m m0 m1 => ⟨by omega, by omega, fun w => by omega, by omega⟩) (by omega)⟩
        exact OKR_set o1 (by decide) (zw_zIn _) (OKS_xup o1.2.2.1 (by decide))
      · unfold DD
        rw [na.2.2.1, na.2.2.2.1, na.2.2.2.2.1, na.2.2.2.2.2.1]
        refine Or.inr (Or.inr (Or.inr (Or.inr (Or.inr (Or.inr (Or.inr (Or.inr (Or.inr (Or.inr (⟨rfl, ?_, ?_⟩))))))))))
        · exact ⟨k0, by rw [B0 0 (by decide) (by omega)]; exact q4.2⟩
        · rw [B9, B12, zw_back (ok0.1.2.2.2.2.2.2 _ (by omega) (by omega)), zw_back (ok0.1.2.2.2.2.2.2 _ (by omega) (by omega))]
          unfold dlA
          rw [xup_comm (i := 9) (by omega), xup_xup, xup_xup, xup_self (i := 92 + 26 * b + 12) rfl, xup_self rfl]
          exact REq_refl _
    · by_cases q0 : 1 ≤ v
      · have q1 : ¬ v ≤ shdA (S 0) b := by omega
        have q2 : ¬ v < 1 := by omega
        have q3 : shdA (S 0) b < v := by omega
        simp (maxDischargeDepth := 12) -implicitDefEqProofs [vb_X11_deliver_0, vb_X11_deliver_10, vb_X11_deliver_29, xI_0, xI_1, xI_3, xI_7, xI_8, xI_14, xI_16, xI_33, xI_35, xI_38, xI_49, xI_50, xI_53, xI_60, xI_61, xI_62, xw_X11_deliver_0, xw_X11_deliver_10, xw_X11_deliver_29, zw_lit, xB_c, xB_s, xB_n, i1_c, j2_c, k1_c, jJ_e, xlg, xls, xla, xpd, ppush, zw_m1, zw_m2, zw_m3, gf_0_4, gf_1_1, gf_1_13, gf_11_0, pf_0_4, pf_1_13, tg_0_4, tg_11_0, tg_1_1, tg_1_13, gv_1_1, gv_1_13, gv_0_0, xD1, xD2, xD3, xD4, xD5, xD6, xb1_0, q0, q1, q2, q3] at g
        exact ⟨_, _, g, Or.inr ⟨fun w => q5 w.2, rfl, cq⟩⟩
      · have q2 : v < 1 := by omega
        simp (maxDischargeDepth := 12) -implicitDefEqProofs [vb_X11_deliver_0, vb_X11_deliver_10, vb_X11_deliver_29, xI_0, xI_1, xI_3, xI_7, xI_8, xI_14, xI_16, xI_33, xI_35, xI_38, xI_49, xI_50, xI_53, xI_60, xI_61, xI_62, xw_X11_deliver_0, xw_X11_deliver_10, xw_X11_deliver_29, zw_lit, xB_c, xB_s, xB_n, i1_c, j2_c, k1_c, jJ_e, xlg, xls, xla, xpd, ppush, zw_m1, zw_m2, zw_m3, gf_0_4, gf_1_1, gf_1_13, gf_11_0, pf_0_4, pf_1_13, tg_0_4, tg_11_0, tg_1_1, tg_1_13, gv_1_1, gv_1_13, gv_0_0, xD1, xD2, xD3, xD4, xD5, xD6, xb1_0, q0, q2] at g
        exact ⟨_, _, g, Or.inr ⟨fun w => q5 w.2, rfl, cq⟩⟩
  · by_cases k0 : 0 ≤ b
    · have k1 : ¬ b ≤ H 1 2 - 1 := by omega
      have k2 : ¬ b < 0 := by omega
      have k3 : H 1 2 - 1 < b := by omega
      have h := call_runP 4 vm_X11_deliver h
      have h := xw_top (hd := []) 5 xD6_ok xc_X11_deliver xa_X11_deliver (t := 0) rfl h
      simp (maxDischargeDepth := 12) -implicitDefEqProofs [vb_X11_deliver_0, vb_X11_deliver_10, vb_X11_deliver_29, xI_0, xI_1, xI_3, xI_7, xI_8, xI_14, xI_16, xI_33, xI_35, xI_38, xI_49, xI_50, xI_53, xI_60, xI_61, xI_62, xw_X11_deliver_0, xw_X11_deliver_10, xw_X11_deliver_29, zw_lit, xB_c, xB_s, xB_n, i1_c, j2_c, k1_c, jJ_e, xlg, xls, xla, xpd, ppush, zw_m1, zw_m2, zw_m3, gf_0_4, gf_1_1, gf_1_13, gf_11_0, pf_0_4, pf_1_13, tg_0_4, tg_11_0, tg_1_1, tg_1_13, gv_1_1, gv_1_13, gv_0_0, xD1, xD2, xD3, xD4, xD5, xD6, xb1_0, z2, k0, k1, k2, k3] at h
      exact ⟨_, _, h, Or.inr ⟨fun w => q4 w.1, rfl, CQ_refl hR hM⟩⟩
    · have k2 : b < 0 := by omega
      have h := call_runP 4 vm_X11_deliver h
      have h := xw_top (hd := []) 5 xD6_ok xc_X11_deliver xa_X11_deliver (t := 0) rfl h
      simp (maxDischargeDepth := 12) -implicitDefEqProofs [vb_X11_deliver_0, vb_X11_deliver_10, vb_X11_deliver_29, xI_0, xI_1, xI_3, xI_7, xI_8, xI_14, xI_16, xI_33, xI_35, xI_38, xI_49, xI_50, xI_53, xI_60, xI_61, xI_62, xw_X11_deliver_0, xw_X11_deliver_10, xw_X11_deliver_29, zw_lit, xB_c, xB_s, xB_n, i1_c, j2_c, k1_c, jJ_e, xlg, xls, xla, xpd, ppush, zw_m1, zw_m2, zw_m3, gf_0_4, gf_1_1, gf_1_13, gf_11_0, pf_0_4, pf_1_13, tg_0_4, tg_11_0, tg_1_1, tg_1_13, gv_1_1, gv_1_13, gv_0_0, xD1, xD2, xD3, xD4, xD5, xD6, xb1_0, z2, k0, k2] at h
      exact ⟨_, _, h, Or.inr ⟨fun w => q4 w.1, rfl, CQ_refl hR hM⟩⟩
theorem RC_sz {H : PH} {S : Int → Int → Int} {n : Int} (h : RC H S n) : OKR (S 0) := h.2.2.2.2.2.1 0 (by decide) h.2.2.2.1.1.1
/-- behind a text or a law: the tape is empty -/
def CQt (H H' : PH) (S : Int → Int → Int) (n : Int) : Prop := RC H' S n ∧ MCC (S 0) H' ∧ OF H H' ∧ H' 213 1 = 0 ∧ H' 372 = H 372
def CDt (H H' : PH) (S : Int → Int → Int) (n : Int) (B : Int → Int) : Prop := RC H' (cns B S) (min 20 (n + 1)) ∧ MCC B H' ∧ OF H H' ∧ H' 213 1 = 0 ∧ H' 372 2 = 0
theorem TCf_fr {A : Int → Int} {H H' : PH} (h : ∀ c, 215 ≤ c → c ≤ 371 → H' c = H c) (t : TCf A H) : TCf A H' := by
  unfold TCf TC at t ⊢
  rw [h 215 (by decide) (by decide), h 216 (by decide) (by decide), h 217 (by decide) (by decide), h 218 (by decide) (by decide), h 219 (by decide) (by decide), h 220 (by decide) (by decide)]
  exact t
theorem MCf_fr {A : Int → Int} {H H' : PH} (hz : 0 ≤ (tlZ A).1 ∧ (tlZ A).1 ≤ 60) (h : ∀ c, 215 ≤ c → c ≤ 371 → H' c = H c) (t : MCf A H) : MCf A H' := by
  unfold MCf XM at t ⊢
  rw [h 221 (by decide) (by decide), h 222 (by decide) (by decide), h 223 (by decide) (by decide), h 297 (by decide) (by decide), h 298 (by decide) (by decide)]
  obtain ⟨t1, t2, t3, t4, t5, t6, t7⟩ := t
  exact ⟨t1, fun x x0 x1 => by rw [h (225 + x) (by omega) (by omega)]; exact t2 x x0 x1, t3, t4, t5, fun x y x0 x1 y0 y1 => by rw [h (300 + x) (by omega) (by omega)]; exact t6 x y x0 x1 y0 y1, t7⟩
theorem MCC_fr {A : Int → Int} {H H' : PH} (h : ∀ c, 215 ≤ c → c ≤ 371 → H' c = H c) (t : MCC A H) : MCC A H' := by
  unfold MCC at t ⊢
  rw [h 215 (by decide) (by decide), h 221 (by decide) (by decide)]
  exact ⟨fun q => TCf_fr h (t.1 q), fun q => ⟨(t.2 q).1, MCf_fr (t.1 (t.2 q).1).2.1 h (t.2 q).2⟩⟩
theorem XS_c {H H' : PH} (ld : LDi H) (f : FXs H H') {c : Int} (hc : (214 ≤ c ∧ c ≤ 467) ∨ c = 0 ∨ 589 ≤ c ∨ c = 212) : H' c = H c := f.1 c (by omega) (fun k k0 k1 w => by
  have kk := ld.1 k k0 k1
  have := KZ (Or.inr kk)
  have := KL_in kk
  have := KX_lt (Or.inr kk)
  omega)
theorem OF_XS {H H' : PH} (ld : LDi H) (f : FXs H H') : OF H H' := ⟨fun c hc => XS_c ld f (by omega), ⟨by rw [XS_c ld f (by decide)], XS_c ld f (by decide)⟩, XS_c ld f (by decide)⟩
/-- text, as the document's machine of rows says it -/
theorem sp_c_text (sz : Int) (w : Int → Int) (S : Int → Int → Int) (n : Int) (H : PH) (hR : RC H S n) (hM : MCC (S 0) H) (h1 : H 213 1 = sz) (hW : H 214 = w) (hs : 0 ≤ sz ∧ sz ≤ 600) (hw : ∀ i, 0 ≤ i → i < sz → 0 ≤ w i ∧ w i ≤ 255) (okT : ∀ m B', txK sz w m 0 (S 0) B' → OKR B') : SPEC 107 [(2, 0)] H (fun r H' => (∃ (m : Nat) (B' : Int → Int), txK sz w m 0 (S 0) B' ∧ r = some (0, (m : Int)) ∧ CDt H H' S n B') ∨ ((∀ m B', ¬ txK sz w m 0 (S 0) B') ∧ r = some (0, -1) ∧ CQt H H' S n)) := by
  intro E n' res h
  obtain ⟨x1, x2, ld, x4, h8, x6, x7⟩ := id hR
  have ok0 := RC_sz hR
  obtain ⟨r, H', g, p⟩ := sp_X11_text sz w (S 0) H h1 hW hs hw x1 x2 ok0.1 (OKR_11 ok0) (by omega) h8 E n' res h
  refine ⟨r, H', g, ?_⟩
  rcases p with ⟨m, B', H1, k1, k2, k3, k4, k5, k6, k7, k8⟩ | ⟨k1, k2, k3, k4, k5, k6⟩
  · refine Or.inl ⟨m, B', k1, k2, ?_⟩
    have gl := GFL_XS ld k3
    have h81 : 0 ≤ H1 0 8 ∧ H1 0 8 ≤ 19 := by rw [gl.1.2]; exact h8
    have okB := okT m B' k1
    have lx := dnx_in h81
    have na := nd_at (H := H1) (k := 0) (a := S 0 0) (b := S 0 2) (d := S 0 1) h81
    rw [k8]
    refine ⟨RC_nd hR gl GFL_refl (CI_nd' okB.1 k5 h81) (CPr_fr (nd_ne h81 (by decide) (by omega) (by decide) (by decide) (by decide)) (nd_ne h81 (by decide) (by omega) (by decide) (by decide) (by decide)) k6) okB ?_, MCC_0 nd_z.1 nd_z.2.1, OF_trans (OF_XS ld.1 k3) (OF_nd h81), ?_, nd_z.2.2⟩
    · unfold DD
      rw [na.2.2.1, na.2.2.2.1, na.2.2.2.2.1, na.2.2.2.2.2.1]
      exact Or.inl ⟨rfl, unT_EXT ok0.1 (OKR_11 ok0) k7, ⟨ok0.1.1.1, k7.1⟩, ⟨ok0.1.2.2.1.1, k7.2.2.1⟩, ⟨ok0.1.2.1.1, k7.2.1⟩⟩
    · rw [nd_ne h81 (by decide) (by omega) (by decide) (by decide) (by decide)]
      exact k4
  · exact Or.inr ⟨k1, k2, RC_fr hR k5 k6 (GFL_XS ld k3), MCC_fr (fun c c0 c1 => XS_c ld.1 k3 (by omega)) hM, OF_XS ld.1 k3, k4, XS_c ld.1 k3 (by decide)⟩
