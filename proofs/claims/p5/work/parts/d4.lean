theorem gf_0_2 : gfOK 0 2 = true := by decide +kernel
def xm_X0_worthOf : List xbT := [(0, vb_X0_worthOf_0, some 7), (7, vb_X0_worthOf_7, some 52), (52, vb_X0_worthOf_52, some 73), (73, vb_X0_worthOf_73, some 87), (87, vb_X0_worthOf_87, some 99), (99, vb_X0_worthOf_99, none)]
theorem xc_X0_worthOf : xOK kd_X0_worthOf xm_X0_worthOf := ⟨ve_X0_worthOf_0, ve_X0_worthOf_7, ve_X0_worthOf_52, ve_X0_worthOf_73, ve_X0_worthOf_87, ve_X0_worthOf_99, trivial⟩
theorem xa_X0_worthOf : xm_X0_worthOf.all (fun q => aOKb q.2.1 && !q.2.1.isEmpty) = true := by decide +kernel
theorem xw_X0_worthOf_0 {E : xE} {res : xR} {N : Nat} {hd : List Nat} {C : xCT} {k : Nat} {L : List Int} {st : List pv} {H : PH} : xW E res N kd_X0_worthOf xm_X0_worthOf hd C (k + 1) 0 L st H = xB (fun t L st H => if t ∈ hd then xJ E res N kd_X0_worthOf t L st H else xW E res N kd_X0_worthOf xm_X0_worthOf hd C k t L st H) (REPR E res) C (some 7) vb_X0_worthOf_0 0 L st H := Eq.trans rfl rfl
theorem xw_X0_worthOf_7 {E : xE} {res : xR} {N : Nat} {hd : List Nat} {C : xCT} {k : Nat} {L : List Int} {st : List pv} {H : PH} : xW E res N kd_X0_worthOf xm_X0_worthOf hd C (k + 1) 7 L st H = xB (fun t L st H => if t ∈ hd then xJ E res N kd_X0_worthOf t L st H else xW E res N kd_X0_worthOf xm_X0_worthOf hd C k t L st H) (REPR E res) C (some 52) vb_X0_worthOf_7 7 L st H := Eq.trans rfl rfl
theorem xw_X0_worthOf_52 {E : xE} {res : xR} {N : Nat} {hd : List Nat} {C : xCT} {k : Nat} {L : List Int} {st : List pv} {H : PH} : xW E res N kd_X0_worthOf xm_X0_worthOf hd C (k + 1) 52 L st H = xB (fun t L st H => if t ∈ hd then xJ E res N kd_X0_worthOf t L st H else xW E res N kd_X0_worthOf xm_X0_worthOf hd C k t L st H) (REPR E res) C (some 73) vb_X0_worthOf_52 52 L st H := Eq.trans rfl rfl
theorem xw_X0_worthOf_73 {E : xE} {res : xR} {N : Nat} {hd : List Nat} {C : xCT} {k : Nat} {L : List Int} {st : List pv} {H : PH} : xW E res N kd_X0_worthOf xm_X0_worthOf hd C (k + 1) 73 L st H = xB (fun t L st H => if t ∈ hd then xJ E res N kd_X0_worthOf t L st H else xW E res N kd_X0_worthOf xm_X0_worthOf hd C k t L st H) (REPR E res) C (some 87) vb_X0_worthOf_73 73 L st H := Eq.trans rfl rfl
theorem xw_X0_worthOf_87 {E : xE} {res : xR} {N : Nat} {hd : List Nat} {C : xCT} {k : Nat} {L : List Int} {st : List pv} {H : PH} : xW E res N kd_X0_worthOf xm_X0_worthOf hd C (k + 1) 87 L st H = xB (fun t L st H => if t ∈ hd then xJ E res N kd_X0_worthOf t L st H else xW E res N kd_X0_worthOf xm_X0_worthOf hd C k t L st H) (REPR E res) C (some 99) vb_X0_worthOf_87 87 L st H := Eq.trans rfl rfl
theorem xw_X0_worthOf_99 {E : xE} {res : xR} {N : Nat} {hd : List Nat} {C : xCT} {k : Nat} {L : List Int} {st : List pv} {H : PH} : xW E res N kd_X0_worthOf xm_X0_worthOf hd C (k + 1) 99 L st H = xB (fun t L st H => if t ∈ hd then xJ E res N kd_X0_worthOf t L st H else xW E res N kd_X0_worthOf xm_X0_worthOf hd C k t L st H) (REPR E res) C (none) vb_X0_worthOf_99 99 L st H := Eq.trans rfl rfl
def xm_X11_paidFor : List xbT := [(0, vb_X11_paidFor_0, none)]
theorem xc_X11_paidFor : xOK kd_X11_paidFor xm_X11_paidFor := ⟨ve_X11_paidFor_0, trivial⟩
theorem xa_X11_paidFor : xm_X11_paidFor.all (fun q => aOKb q.2.1 && !q.2.1.isEmpty) = true := by decide +kernel
theorem xw_X11_paidFor_0 {E : xE} {res : xR} {N : Nat} {hd : List Nat} {C : xCT} {k : Nat} {L : List Int} {st : List pv} {H : PH} : xW E res N kd_X11_paidFor xm_X11_paidFor hd C (k + 1) 0 L st H = xB (fun t L st H => if t ∈ hd then xJ E res N kd_X11_paidFor t L st H else xW E res N kd_X11_paidFor xm_X11_paidFor hd C k t L st H) (REPR E res) C (none) vb_X11_paidFor_0 0 L st H := Eq.trans rfl rfl
def xm_X11_paid : List xbT := [(0, vb_X11_paid_0, some 16), (16, vb_X11_paid_16, some 31), (31, vb_X11_paid_31, some 35), (35, vb_X11_paid_35, some 60), (60, vb_X11_paid_60, none)]
theorem xc_X11_paid : xOK kd_X11_paid xm_X11_paid := ⟨ve_X11_paid_0, ve_X11_paid_16, ve_X11_paid_31, ve_X11_paid_35, ve_X11_paid_60, trivial⟩
theorem xa_X11_paid : xm_X11_paid.all (fun q => aOKb q.2.1 && !q.2.1.isEmpty) = true := by decide +kernel
theorem xw_X11_paid_0 {E : xE} {res : xR} {N : Nat} {hd : List Nat} {C : xCT} {k : Nat} {L : List Int} {st : List pv} {H : PH} : xW E res N kd_X11_paid xm_X11_paid hd C (k + 1) 0 L st H = xB (fun t L st H => if t ∈ hd then xJ E res N kd_X11_paid t L st H else xW E res N kd_X11_paid xm_X11_paid hd C k t L st H) (REPR E res) C (some 16) vb_X11_paid_0 0 L st H := Eq.trans rfl rfl
theorem xw_X11_paid_16 {E : xE} {res : xR} {N : Nat} {hd : List Nat} {C : xCT} {k : Nat} {L : List Int} {st : List pv} {H : PH} : xW E res N kd_X11_paid xm_X11_paid hd C (k + 1) 16 L st H = xB (fun t L st H => if t ∈ hd then xJ E res N kd_X11_paid t L st H else xW E res N kd_X11_paid xm_X11_paid hd C k t L st H) (REPR E res) C (some 31) vb_X11_paid_16 16 L st H := Eq.trans rfl rfl
theorem xw_X11_paid_31 {E : xE} {res : xR} {N : Nat} {hd : List Nat} {C : xCT} {k : Nat} {L : List Int} {st : List pv} {H : PH} : xW E res N kd_X11_paid xm_X11_paid hd C (k + 1) 31 L st H = xB (fun t L st H => if t ∈ hd then xJ E res N kd_X11_paid t L st H else xW E res N kd_X11_paid xm_X11_paid hd C k t L st H) (REPR E res) C (some 35) vb_X11_paid_31 31 L st H := Eq.trans rfl rfl
theorem xw_X11_paid_35 {E : xE} {res : xR} {N : Nat} {hd : List Nat} {C : xCT} {k : Nat} {L : List Int} {st : List pv} {H : PH} : xW E res N kd_X11_paid xm_X11_paid hd C (k + 1) 35 L st H = xB (fun t L st H => if t ∈ hd then xJ E res N kd_X11_paid t L st H else xW E res N kd_X11_paid xm_X11_paid hd C k t L st H) (REPR E res) C (some 60) vb_X11_paid_35 35 L st H := Eq.trans rfl rfl
theorem xw_X11_paid_60 {E : xE} {res : xR} {N : Nat} {hd : List Nat} {C : xCT} {k : Nat} {L : List Int} {st : List pv} {H : PH} : xW E res N kd_X11_paid xm_X11_paid hd C (k + 1) 60 L st H = xB (fun t L st H => if t ∈ hd then xJ E res N kd_X11_paid t L st H else xW E res N kd_X11_paid xm_X11_paid hd C k t L st H) (REPR E res) C (none) vb_X11_paid_60 60 L st H := Eq.trans rfl rfl
/-! queries of the class: what is paid -/
def pdS (n e kd am v : Int) : Int := max 0 (if kd = 1 then v - min am n * e / 2 else if kd = 2 then v - min am n * e / 4 else if kd = 0 then v else v / 2)
def pdF (kd am : Int → Int) (n e : Int) : Nat → Int → Int → Int
  | 0, _, v => v
  | m + 1, i, v => pdF kd am n e m (i + 1) (pdS n e (kd i) (am i) v)
def pd1 (A : Int → Int) (b : Int) : Int := pdF (fun i => A (92 + 26 * b + 14 + 2 * i)) (fun i => A (92 + 26 * b + 14 + 2 * i + 1)) (min (A (92 + 26 * b + 11)) ((mtZ A).2.1 b)) (min (A (92 + 26 * b + 10)) (A 5)) (A (92 + 26 * b + 13)).toNat 0 (min (A (92 + 26 * b + 11)) ((mtZ A).2.1 b) * min (A (92 + 26 * b + 10)) (A 5))
theorem mul_in {n e : Int} (hn : 0 ≤ n ∧ n ≤ 999) (he : 0 ≤ e ∧ e ≤ 9999) : 0 ≤ n * e ∧ n * e ≤ 9989001 := by
  refine ⟨Int.mul_nonneg hn.1 he.1, ?_⟩
  have := Int.mul_le_mul hn.2 he.2 he.1 (by decide : (0 : Int) ≤ 999)
  omega
theorem pdS_in {n e kd am v : Int} (hn : 0 ≤ n ∧ n ≤ 999) (he : 0 ≤ e ∧ e ≤ 9999) (ha : 0 ≤ am) (hv : 0 ≤ v ∧ v ≤ 9989001) : 0 ≤ pdS n e kd am v ∧ pdS n e kd am v ≤ 9989001 := by
  have := mul_in (n := min am n) (e := e) (by omega) he
  unfold pdS
  repeat' split
  all_goals omega
theorem pdF_in {kd am : Int → Int} {n e : Int} (hn : 0 ≤ n ∧ n ≤ 999) (he : 0 ≤ e ∧ e ≤ 9999) : ∀ (m : Nat) (i v : Int), (∀ j, i ≤ j → j < i + m → 0 ≤ am j) → 0 ≤ v ∧ v ≤ 9989001 → 0 ≤ pdF kd am n e m i v ∧ pdF kd am n e m i v ≤ 9989001
  | 0, _, _, _, h => h
  | m + 1, i, v, ha, h => pdF_in hn he m (i + 1) _ (fun j j0 j1 => ha j (by omega) (by omega)) (pdS_in hn he (ha i (by omega) (by omega)) h)
set_option maxRecDepth 100000 in
theorem lp_wo (c n e : Int) (H : PH) (hc : KB c) (h5 : 0 ≤ H c 5 ∧ H c 5 ≤ 6) (hn : 0 ≤ n ∧ n ≤ 999) (he : 0 ≤ e ∧ e ≤ 9999) (ha : ∀ i, 0 ≤ i → i < H c 5 → (0 ≤ H (c + 1) i ∧ H (c + 1) i ≤ 3) ∧ (0 ≤ H (c + 2) i ∧ H (c + 2) i ≤ 999)) {E : xE} {res : xR} : ∀ (m : Nat) (i v x : Int), 0 ≤ i → i ≤ H c 5 → 0 ≤ v ∧ v ≤ 9989001 → RUN E res m kd_X0_worthOf (zget kd_X0_worthOf 7) 7 [c, n, e, v, i, x] [] H → REPR E res (some (0, pdF (H (c + 1)) (H (c + 2)) n e (H c 5 - i).toNat i v)) H := by
  intro m
  induction m using Nat.strongRecOn with
  | _ m ih =>
    intro i v x i0 i1 hv h
    obtain ⟨g6, g7, g0, g1, g2, g3, g4, g5⟩ := id (KB_f hc)
    have g5 := g5.1
    have z1 : zw (i + 1) = i + 1 := zw_lit (by omega) (by omega)
    by_cases c1 : i < H c 5
    · have c' : ¬ H c 5 ≤ i := by omega
      obtain ⟨hk, ham⟩ := ha i i0 c1
      have st : (H c 5 - i).toNat = (H c 5 - (i + 1)).toNat + 1 := by omega
      rw [st]
      unfold pdF
      have mm := mul_in (n := min (H (c + 2) i) n) (e := e) (by omega) he
      have zm : zw (min (H (c + 2) i) n * e) = min (H (c + 2) i) n * e := zw_lit (by omega) (by omega)
      have mc : min n (H (c + 2) i) = min (H (c + 2) i) n := Int.min_comm _ _
      have d2 : q2 (· / ·) (min (H (c + 2) i) n * e) 2 = min (H (c + 2) i) n * e / 2 := q2_div (by omega) (by omega) (by decide) (by decide)
      have d4 : q2 (· / ·) (min (H (c + 2) i) n * e) 4 = min (H (c + 2) i) n * e / 4 := q2_div (by omega) (by omega) (by decide) (by decide)
      have dv : q2 (· / ·) v 2 = v / 2 := q2_div (by omega) (by omega) (by decide) (by decide)
      have s2 : zw (v - min (H (c + 2) i) n * e / 2) = v - min (H (c + 2) i) n * e / 2 := zw_lit (by omega) (by omega)
      have s4 : zw (v - min (H (c + 2) i) n * e / 4) = v - min (H (c + 2) i) n * e / 4 := zw_lit (by omega) (by omega)
      have i0c : 0 ≤ c + 1 := by have := hc.1; omega
      have nx : ∀ (u y : Int), u = pdS n e (H (c + 1) i) (H (c + 2) i) v → xJ E res m kd_X0_worthOf 7 [c, n, e, u, i + 1, y] [] H → REPR E res (some (0, pdF (H (c + 1)) (H (c + 2)) n e (H c 5 - (i + 1)).toNat (i + 1) (pdS n e (H (c + 1) i) (H (c + 2) i) v))) H := by
        rintro u y rfl ⟨k, hk, g⟩
        exact ih k hk (i + 1) _ y (by omega) (by omega) (pdS_in hn he ham.1 hv) g
      have mx : ∀ t : Int, max t 0 = max 0 t := fun t => Int.max_comm _ _
      by_cases k1 : H (c + 1) i = 1
      · have h := xw_top (hd := [7]) 8 xD6_ok xc_X0_worthOf xa_X0_worthOf (t := 7) rfl h
        simp (maxDischargeDepth := 12) -implicitDefEqProofs [vb_X0_worthOf_0, vb_X0_worthOf_7, vb_X0_worthOf_52, vb_X0_worthOf_73, vb_X0_worthOf_87, vb_X0_worthOf_99, xI_0, xI_1, xI_3, xI_6, xI_7, xI_15, xI_16, xI_17, xI_36, xI_37, xI_44, xI_46, xI_49, xI_51, xI_55, xI_56, xI_62, xw_X0_worthOf_0, xw_X0_worthOf_7, xw_X0_worthOf_52, xw_X0_worthOf_73, xw_X0_worthOf_87, xw_X0_worthOf_99, zw_lit, xB_c, xB_s, xB_n, i1_c, j2_c, k1_c, jJ_e, xlg, xls, xla, xpd, ppush, zw_m1, zw_m2, zw_m3, gf_0_5, gf_0_6, gf_0_7, tg_0_5, tg_0_6, tg_0_7, xD1, xD2, xD3, xD4, xD5, xD6, xb1_0, g6, g7, g5, c1, c', mn_a, mn_b, mc, zm, k1, d2, s2, z1, mx] at h
        exact nx _ _ (by unfold pdS; rw [if_pos k1]) (h (by omega) i0c)
      by_cases k2 : H (c + 1) i = 2
      · have h := xw_top (hd := [7]) 8 xD6_ok xc_X0_worthOf xa_X0_worthOf (t := 7) rfl h
        simp (maxDischargeDepth := 12) -implicitDefEqProofs [vb_X0_worthOf_0, vb_X0_worthOf_7, vb_X0_worthOf_52, vb_X0_worthOf_73, vb_X0_worthOf_87, vb_X0_worthOf_99, xI_0, xI_1, xI_3, xI_6, xI_7, xI_15, xI_16, xI_17, xI_36, xI_37, xI_44, xI_46, xI_49, xI_51, xI_55, xI_56, xI_62, xw_X0_worthOf_0, xw_X0_worthOf_7, xw_X0_worthOf_52, xw_X0_worthOf_73, xw_X0_worthOf_87, xw_X0_worthOf_99, zw_lit, xB_c, xB_s, xB_n, i1_c, j2_c, k1_c, jJ_e, xlg, xls, xla, xpd, ppush, zw_m1, zw_m2, zw_m3, gf_0_5, gf_0_6, gf_0_7, tg_0_5, tg_0_6, tg_0_7, xD1, xD2, xD3, xD4, xD5, xD6, xb1_0, g6, g7, g5, c1, c', mn_a, mn_b, mc, zm, k1, k2, d4, s4, z1, mx] at h
        exact nx _ _ (by unfold pdS; rw [if_neg k1, if_pos k2]) (h (by omega) i0c)
      by_cases k0 : H (c + 1) i = 0
      · have h := xw_top (hd := [7]) 8 xD6_ok xc_X0_worthOf xa_X0_worthOf (t := 7) rfl h
        simp (maxDischargeDepth := 12) -implicitDefEqProofs [vb_X0_worthOf_0, vb_X0_worthOf_7, vb_X0_worthOf_52, vb_X0_worthOf_73, vb_X0_worthOf_87, vb_X0_worthOf_99, xI_0, xI_1, xI_3, xI_6, xI_7, xI_15, xI_16, xI_17, xI_36, xI_37, xI_44, xI_46, xI_49, xI_51, xI_55, xI_56, xI_62, xw_X0_worthOf_0, xw_X0_worthOf_7, xw_X0_worthOf_52, xw_X0_worthOf_73, xw_X0_worthOf_87, xw_X0_worthOf_99, zw_lit, xB_c, xB_s, xB_n, i1_c, j2_c, k1_c, jJ_e, xlg, xls, xla, xpd, ppush, zw_m1, zw_m2, zw_m3, gf_0_5, gf_0_6, gf_0_7, tg_0_5, tg_0_6, tg_0_7, xD1, xD2, xD3, xD4, xD5, xD6, xb1_0, g6, g7, g5, c1, c', mn_a, mn_b, mc, zm, k0, z1, mx] at h
        exact nx _ _ (by unfold pdS; rw [if_neg k1, if_neg k2, if_pos k0]) (h (by omega) i0c)
      · have h := xw_top (hd := [7]) 8 xD6_ok xc_X0_worthOf xa_X0_worthOf (t := 7) rfl h
        simp (maxDischargeDepth := 12) -implicitDefEqProofs [vb_X0_worthOf_0, vb_X0_worthOf_7, vb_X0_worthOf_52, vb_X0_worthOf_73, vb_X0_worthOf_87, vb_X0_worthOf_99, xI_0, xI_1, xI_3, xI_6, xI_7, xI_15, xI_16, xI_17, xI_36, xI_37, xI_44, xI_46, xI_49, xI_51, xI_55, xI_56, xI_62, xw_X0_worthOf_0, xw_X0_worthOf_7, xw_X0_worthOf_52, xw_X0_worthOf_73, xw_X0_worthOf_87, xw_X0_worthOf_99, zw_lit, xB_c, xB_s, xB_n, i1_c, j2_c, k1_c, jJ_e, xlg, xls, xla, xpd, ppush, zw_m1, zw_m2, zw_m3, gf_0_5, gf_0_6, gf_0_7, tg_0_5, tg_0_6, tg_0_7, xD1, xD2, xD3, xD4, xD5, xD6, xb1_0, g6, g7, g5, c1, c', mn_a, mn_b, mc, zm, k1, k2, k0, dv, z1, mx] at h
        exact nx _ _ (by unfold pdS; rw [if_neg k1, if_neg k2, if_neg k0]) (h (by omega) i0c)
    · have c' : H c 5 ≤ i := by omega
      rw [show (H c 5 - i).toNat = 0 by omega]
      have h := xw_top (hd := [7]) 8 xD6_ok xc_X0_worthOf xa_X0_worthOf (t := 7) rfl h
      simp (maxDischargeDepth := 12) -implicitDefEqProofs [vb_X0_worthOf_0, vb_X0_worthOf_7, vb_X0_worthOf_52, vb_X0_worthOf_73, vb_X0_worthOf_87, vb_X0_worthOf_99, xI_0, xI_1, xI_3, xI_6, xI_7, xI_15, xI_16, xI_17, xI_36, xI_37, xI_44, xI_46, xI_49, xI_51, xI_55, xI_56, xI_62, xw_X0_worthOf_0, xw_X0_worthOf_7, xw_X0_worthOf_52, xw_X0_worthOf_73, xw_X0_worthOf_87, xw_X0_worthOf_99, zw_lit, xB_c, xB_s, xB_n, i1_c, j2_c, k1_c, jJ_e, xlg, xls, xla, xpd, ppush, zw_m1, zw_m2, zw_m3, gf_0_5, gf_0_6, gf_0_7, tg_0_5, tg_0_6, tg_0_7, xD1, xD2, xD3, xD4, xD5, xD6, xb1_0, g5, c1, c'] at h
      exact h
set_option maxRecDepth 100000 in
theorem sp_X0_worthOf (c n e : Int) (H : PH) (hc : KB c) (h5 : 0 ≤ H c 5 ∧ H c 5 ≤ 6) (hn : 0 ≤ n ∧ n ≤ 999) (he : 0 ≤ e ∧ e ≤ 9999) (ha : ∀ i, 0 ≤ i → i < H c 5 → (0 ≤ H (c + 1) i ∧ H (c + 1) i ≤ 3) ∧ (0 ≤ H (c + 2) i ∧ H (c + 2) i ≤ 999)) : SPEC 4 [(2, c), (0, n), (0, e)] H (fun r H' => r = some (0, pdF (H (c + 1)) (H (c + 2)) n e (H c 5).toNat 0 (n * e)) ∧ H' = H) := by
  intro E m res h
  have mm := mul_in hn he
  have zm : zw (n * e) = n * e := zw_lit (by omega) (by omega)
  have h := call_runP 6 vm_X0_worthOf h
  have h := xw_top (hd := [7]) 8 xD6_ok xc_X0_worthOf xa_X0_worthOf (t := 0) rfl h
  simp (maxDischargeDepth := 12) -implicitDefEqProofs [vb_X0_worthOf_0, vb_X0_worthOf_7, vb_X0_worthOf_52, vb_X0_worthOf_73, vb_X0_worthOf_87, vb_X0_worthOf_99, xI_0, xI_1, xI_3, xI_6, xI_7, xI_15, xI_16, xI_17, xI_36, xI_37, xI_44, xI_46, xI_49, xI_51, xI_55, xI_56, xI_62, xw_X0_worthOf_0, xw_X0_worthOf_7, xw_X0_worthOf_52, xw_X0_worthOf_73, xw_X0_worthOf_87, xw_X0_worthOf_99, zw_lit, xB_c, xB_s, xB_n, i1_c, j2_c, k1_c, jJ_e, xlg, xls, xla, xpd, ppush, zw_m1, zw_m2, zw_m3, gf_0_5, gf_0_6, gf_0_7, tg_0_5, tg_0_6, tg_0_7, xD1, xD2, xD3, xD4, xD5, xD6, xb1_0, zm] at h
  obtain ⟨k, hk, h⟩ := h
  have g := lp_wo c n e H hc h5 hn he ha k 0 (n * e) 0 (by omega) (by omega) mm h
  rw [Int.sub_zero] at g
  exact ⟨_, _, g, rfl, rfl⟩
theorem pdF_eq {kd am kd' am' : Int → Int} {n e : Int} : ∀ (m : Nat) (i v : Int), (∀ j, i ≤ j → j < i + m → kd j = kd' j ∧ am j = am' j) → pdF kd am n e m i v = pdF kd' am' n e m i v
  | 0, _, _, _ => rfl
  | m + 1, i, v, h => by
    unfold pdF
    obtain ⟨e1, e2⟩ := h i (by omega) (by omega)
    rw [e1, e2]
    exact pdF_eq m (i + 1) _ (fun j a b => h j (by omega) (by omega))
theorem lack_in {A : Int → Int} (hf : 0 ≤ A 4 ∧ A 4 ≤ 24) (b : Int) : 0 ≤ (mtZ A).2.1 b ∧ (mtZ A).2.1 b ≤ wntA A b := by
  obtain ⟨e, hI, _⟩ := mtZ_J hf
  exact hI.2.2.1 b
theorem pd1_in {A : Int → Int} (ok : OKR A) {b : Int} (hb : 0 ≤ b ∧ b < A 0) : 0 ≤ pd1 A b ∧ pd1 A b ≤ 9989001 := by
  have os := ok.2.2.1
  unfold OKS at os
  obtain ⟨x1, x2, x3, x4⟩ := ok.2.2.2.1 b hb.1 hb.2
  have lk := lack_in os.2.1 b
  have a0 := ok.1.1
  have r6 := ok.1.2.2.2.2.1 b hb.1 (by omega)
  unfold pd1
  refine pdF_in (by omega) (by omega) _ _ _ (fun j j0 j1 => (x4 j j0 (by omega)).2.1) (mul_in (by omega) (by omega))
set_option maxRecDepth 100000 in
theorem sp_X11_paidFor (b : Int) (A : Int → Int) (H : PH) (ok : OKR A) (ci : CI H A) (hM : MCf A H) (hb : 0 ≤ b ∧ b < A 0) : SPEC 152 [(2, 0), (0, b)] H (fun r H' => r = some (0, pd1 A b) ∧ H' = H) := by
  intro E m res h
  have os := ok.2.2.1
  unfold OKS at os
  have a0 := ok.1.1
  obtain ⟨x1, x2, x3, x4⟩ := ok.2.2.2.1 b hb.1 hb.2
  have lk := lack_in os.2.1 b
  have r6 := ok.1.2.2.2.2.1 b hb.1 (by omega)
  have kbc := KB_of (b := b) hb.1 (by omega)
  obtain ⟨g6, g7, g0, g1, g2, g3, g4, g5⟩ := id (KB_f kbc)
  obtain ⟨t1, t2, t3, t4, t5, t6, t7⟩ := ci.1.2.1 b hb.1 hb.2
  have g46 : gv H 46 b = 57 + 3 * b := gv46 hb.1 (by omega)
  have f6 : H 298 b = (mtZ A).2.1 b := hM.2.2.2.2.1 _ (by omega) (by omega)
  have e5 : H 1 9 = A 5 := ci.1.1.2.2.2.2.2.1.symm
  have mc1 : min ((mtZ A).2.1 b) (H (57 + 3 * b) 3) = min (H (57 + 3 * b) 3) ((mtZ A).2.1 b) := Int.min_comm _ _
  have mc2 : min (A 5) (H (57 + 3 * b) 2) = min (H (57 + 3 * b) 2) (A 5) := Int.min_comm _ _
  have h := call_runP 3 vm_X11_paidFor h
  have h := xw_top (hd := []) 3 xD6_ok xc_X11_paidFor xa_X11_paidFor (t := 0) rfl h
  simp (maxDischargeDepth := 12) -implicitDefEqProofs [vb_X11_paidFor_0, xI_0, xI_1, xI_4, xI_49, xI_51, xI_53, xI_56, xI_61, xI_62, xw_X11_paidFor_0, zw_lit, xB_c, xB_s, xB_n, i1_c, j2_c, k1_c, jJ_e, xlg, xls, xla, xpd, ppush, zw_m1, zw_m2, zw_m3, gf_0_2, gf_0_3, gf_1_1, gf_1_9, gf_6_8, gf_11_0, gf_11_3, tg_0_2, tg_0_3, tg_11_0, tg_11_3, tg_1_1, tg_1_9, tg_6_8, gv_1_1, gv_1_9, gv_221_8, gv_0_0, gv_0_3, xD1, xD2, xD3, xD4, xD5, xD6, xb1_0, g46, g3, g2, f6, e5, mn_a, mc1, mc2] at h
  obtain ⟨r, H1, ⟨rfl, rfl⟩, g⟩ := xc_use h (sp_X0_worthOf (57 + 3 * b) _ _ H kbc (by rw [← t6]; exact r6) (by rw [← t4]; omega) (by rw [← t3]; omega) (fun i i0 i1 => by
    obtain ⟨y1, y2⟩ := t7 i i0 i1
    rw [← y1, ← y2]
    exact x4 i i0 (by omega)))
  refine ⟨_, _, g, ?_, rfl⟩
  unfold pd1
  rw [← t4, ← t3, ← t6, pdF_eq _ _ _ (fun j j0 j1 => by
    obtain ⟨y1, y2⟩ := t7 j j0 (by omega)
    exact ⟨y1.symm, y2.symm⟩)]
def pdZ (A : Int → Int) : Int := fdS (fun b => if 0 ≤ b ∧ b < A 0 then pd1 A b else 0) (A 0).toNat 0 0
def pdQ (A : Int → Int) (b : Int) : Int := if b = -1 then pdZ A else if 0 ≤ b ∧ b < A 0 then pd1 A b else -2
set_option maxRecDepth 100000 in
theorem lp_paid (x : Int) (A : Int → Int) (H : PH) (ok : OKR A) (ci : CI H A) (hM : MCf A H) {E : xE} {res : xR} : ∀ (n : Nat) (b v : Int), 0 ≤ b → b ≤ A 0 → 0 ≤ v → v ≤ 9989001 * b → RUN E res n kd_X11_paid (zget kd_X11_paid 35) 35 [0, x, v, b] [] H → REPR E res (some (0, fdS (fun b => if 0 ≤ b ∧ b < A 0 then pd1 A b else 0) (A 0 - b).toNat b v)) H := by
  intro n
  induction n using Nat.strongRecOn with
  | _ n ih =>
    intro b v b0 b1 v0 v1 hh
    have a0 := ok.1.1
    have e2 : H 1 2 = A 0 := ci.1.1.1.symm
    have z1 : zw (b + 1) = b + 1 := zw_lit (by omega) (by omega)
    by_cases c : b < A 0
    · have c' : ¬ A 0 ≤ b := by omega
      have pi := pd1_in ok ⟨b0, c⟩
      have zv : zw (v + pd1 A b) = v + pd1 A b := zw_lit (by omega) (by omega)
      have st : (A 0 - b).toNat = (A 0 - (b + 1)).toNat + 1 := by omega
      rw [st]
      unfold fdS
      have hh := xw_top (hd := [35]) 7 xD6_ok xc_X11_paid xa_X11_paid (t := 35) rfl hh
      simp (maxDischargeDepth := 12) -implicitDefEqProofs [vb_X11_paid_0, vb_X11_paid_16, vb_X11_paid_31, vb_X11_paid_35, vb_X11_paid_60, xI_0, xI_1, xI_3, xI_6, xI_7, xI_8, xI_14, xI_36, xI_38, xI_43, xI_46, xI_49, xI_61, xI_62, xw_X11_paid_0, xw_X11_paid_16, xw_X11_paid_31, xw_X11_paid_35, xw_X11_paid_60, zw_lit, xB_c, xB_s, xB_n, i1_c, j2_c, k1_c, jJ_e, xlg, xls, xla, xpd, ppush, zw_m1, zw_m2, zw_m3, gf_1_2, gf_11_0, tg_11_0, tg_1_2, gv_1_2, gv_0_0, xD1, xD2, xD3, xD4, xD5, xD6, xb1_0, e2, c, c'] at hh
      obtain ⟨r, H1, ⟨rfl, rfl⟩, g⟩ := xc_use hh (sp_X11_paidFor b A H ok ci hM ⟨b0, c⟩)
      simp (maxDischargeDepth := 12) -implicitDefEqProofs [vb_X11_paid_0, vb_X11_paid_16, vb_X11_paid_31, vb_X11_paid_35, vb_X11_paid_60, xI_0, xI_1, xI_3, xI_6, xI_7, xI_8, xI_14, xI_36, xI_38, xI_43, xI_46, xI_49, xI_61, xI_62, xw_X11_paid_0, xw_X11_paid_16, xw_X11_paid_31, xw_X11_paid_35, xw_X11_paid_60, zw_lit, xB_c, xB_s, xB_n, i1_c, j2_c, k1_c, jJ_e, xlg, xls, xla, xpd, ppush, zw_m1, zw_m2, zw_m3, gf_1_2, gf_11_0, tg_11_0, tg_1_2, gv_1_2, gv_0_0, xD1, xD2, xD3, xD4, xD5, xD6, xb1_0, zv, z1] at g
      obtain ⟨m, hm, g⟩ := g
      rw [if_pos ⟨b0, c⟩]
      exact ih m hm (b + 1) _ (by omega) (by omega) (by omega) (by omega) g
    · have c' : A 0 ≤ b := by omega
      rw [show (A 0 - b).toNat = 0 by omega]
      have hh := xw_top (hd := [35]) 7 xD6_ok xc_X11_paid xa_X11_paid (t := 35) rfl hh
      simp (maxDischargeDepth := 12) -implicitDefEqProofs [vb_X11_paid_0, vb_X11_paid_16, vb_X11_paid_31, vb_X11_paid_35, vb_X11_paid_60, xI_0, xI_1, xI_3, xI_6, xI_7, xI_8, xI_14, xI_36, xI_38, xI_43, xI_46, xI_49, xI_61, xI_62, xw_X11_paid_0, xw_X11_paid_16, xw_X11_paid_31, xw_X11_paid_35, xw_X11_paid_60, zw_lit, xB_c, xB_s, xB_n, i1_c, j2_c, k1_c, jJ_e, xlg, xls, xla, xpd, ppush, zw_m1, zw_m2, zw_m3, gf_1_2, gf_11_0, tg_11_0, tg_1_2, gv_1_2, gv_0_0, xD1, xD2, xD3, xD4, xD5, xD6, xb1_0, e2, c, c'] at hh
      exact hh
set_option maxRecDepth 100000 in
theorem sp_c_paid (b : Int) (S : Int → Int → Int) (n : Int) (H : PH) (hR : RC H S n) (hM : MCC (S 0) H) : SPEC 127 [(2, 0), (0, b)] H (fun r H' => r = some (0, pdQ (S 0) b) ∧ CQ H H' S n) := by
  intro E n' res h
  obtain ⟨e0, e2, z0, z2, a0, a2⟩ := RC_12 hR
  have ok0 := RC_sz hR
  by_cases bm : b = -1
  · have h := call_runP 4 vm_X11_paid h
    have h := xw_top (hd := [35]) 7 xD6_ok xc_X11_paid xa_X11_paid (t := 0) rfl h
    simp (maxDischargeDepth := 12) -implicitDefEqProofs [vb_X11_paid_0, vb_X11_paid_16, vb_X11_paid_31, vb_X11_paid_35, vb_X11_paid_60, xI_0, xI_1, xI_3, xI_6, xI_7, xI_8, xI_14, xI_36, xI_38, xI_43, xI_46, xI_49, xI_61, xI_62, xw_X11_paid_0, xw_X11_paid_16, xw_X11_paid_31, xw_X11_paid_35, xw_X11_paid_60, zw_lit, xB_c, xB_s, xB_n, i1_c, j2_c, k1_c, jJ_e, xlg, xls, xla, xpd, ppush, zw_m1, zw_m2, zw_m3, gf_1_2, gf_11_0, tg_11_0, tg_1_2, gv_1_2, gv_0_0, xD1, xD2, xD3, xD4, xD5, xD6, xb1_0, bm] at h
    obtain ⟨r, H1, ⟨rfl, cq, t, m⟩, g⟩ := xc_use h (sp_c_match S n H hR hM)
    simp (maxDischargeDepth := 12) -implicitDefEqProofs [vb_X11_paid_0, vb_X11_paid_16, vb_X11_paid_31, vb_X11_paid_35, vb_X11_paid_60, xI_0, xI_1, xI_3, xI_6, xI_7, xI_8, xI_14, xI_36, xI_38, xI_43, xI_46, xI_49, xI_61, xI_62, xw_X11_paid_0, xw_X11_paid_16, xw_X11_paid_31, xw_X11_paid_35, xw_X11_paid_60, zw_lit, xB_c, xB_s, xB_n, i1_c, j2_c, k1_c, jJ_e, xlg, xls, xla, xpd, ppush, zw_m1, zw_m2, zw_m3, gf_1_2, gf_11_0, tg_11_0, tg_1_2, gv_1_2, gv_0_0, xD1, xD2, xD3, xD4, xD5, xD6, xb1_0] at g
    obtain ⟨k, hk, g⟩ := g
    have g := lp_paid _ (S 0) H1 ok0 cq.1.1 m k 0 0 (by omega) a0.1 (by omega) (by omega) g
    rw [Int.sub_zero] at g
    exact ⟨_, _, g, by unfold pdQ; rw [if_pos bm]; rfl, cq⟩
  · by_cases qb : 0 ≤ b ∧ b < S 0 0
    · have b0 := qb.1
      have b1 : b ≤ H 1 2 - 1 := by omega
      have b2 : ¬ b < 0 := by omega
      have b3 : ¬ H 1 2 - 1 < b := by omega
      have h := call_runP 4 vm_X11_paid h
      have h := xw_top (hd := [35]) 7 xD6_ok xc_X11_paid xa_X11_paid (t := 0) rfl h
      simp (maxDischargeDepth := 12) -implicitDefEqProofs [vb_X11_paid_0, vb_X11_paid_16, vb_X11_paid_31, vb_X11_paid_35, vb_X11_paid_60, xI_0, xI_1, xI_3, xI_6, xI_7, xI_8, xI_14, xI_36, xI_38, xI_43, xI_46, xI_49, xI_61, xI_62, xw_X11_paid_0, xw_X11_paid_16, xw_X11_paid_31, xw_X11_paid_35, xw_X11_paid_60, zw_lit, xB_c, xB_s, xB_n, i1_c, j2_c, k1_c, jJ_e, xlg, xls, xla, xpd, ppush, zw_m1, zw_m2, zw_m3, gf_1_2, gf_11_0, tg_11_0, tg_1_2, gv_1_2, gv_0_0, xD1, xD2, xD3, xD4, xD5, xD6, xb1_0, bm, z0, b0, b1, b2, b3] at h
      obtain ⟨r, H1, ⟨rfl, cq, t, m⟩, g⟩ := xc_use h (sp_c_match S n H hR hM)
      simp (maxDischargeDepth := 12) -implicitDefEqProofs [vb_X11_paid_0, vb_X11_paid_16, vb_X11_paid_31, vb_X11_paid_35, vb_X11_paid_60, xI_0, xI_1, xI_3, xI_6, xI_7, xI_8, xI_14, xI_36, xI_38, xI_43, xI_46, xI_49, xI_61, xI_62, xw_X11_paid_0, xw_X11_paid_16, xw_X11_paid_31, xw_X11_paid_35, xw_X11_paid_60, zw_lit, xB_c, xB_s, xB_n, i1_c, j2_c, k1_c, jJ_e, xlg, xls, xla, xpd, ppush, zw_m1, zw_m2, zw_m3, gf_1_2, gf_11_0, tg_11_0, tg_1_2, gv_1_2, gv_0_0, xD1, xD2, xD3, xD4, xD5, xD6, xb1_0, bm] at g
      obtain ⟨r, H2, ⟨rfl, rfl⟩, g2⟩ := xc_use g (sp_X11_paidFor b (S 0) H1 ok0 cq.1.1 m qb)
      exact ⟨_, _, g2, by unfold pdQ; rw [if_neg bm, if_pos qb], cq⟩
    · by_cases b0 : 0 ≤ b
      · have b1 : ¬ b ≤ H 1 2 - 1 := by omega
        have b2 : ¬ b < 0 := by omega
        have b3 : H 1 2 - 1 < b := by omega
        have h := call_runP 4 vm_X11_paid h
        have h := xw_top (hd := [35]) 7 xD6_ok xc_X11_paid xa_X11_paid (t := 0) rfl h
        simp (maxDischargeDepth := 12) -implicitDefEqProofs [vb_X11_paid_0, vb_X11_paid_16, vb_X11_paid_31, vb_X11_paid_35, vb_X11_paid_60, xI_0, xI_1, xI_3, xI_6, xI_7, xI_8, xI_14, xI_36, xI_38, xI_43, xI_46, xI_49, xI_61, xI_62, xw_X11_paid_0, xw_X11_paid_16, xw_X11_paid_31, xw_X11_paid_35, xw_X11_paid_60, zw_lit, xB_c, xB_s, xB_n, i1_c, j2_c, k1_c, jJ_e, xlg, xls, xla, xpd, ppush, zw_m1, zw_m2, zw_m3, gf_1_2, gf_11_0, tg_11_0, tg_1_2, gv_1_2, gv_0_0, xD1, xD2, xD3, xD4, xD5, xD6, xb1_0, bm, z0, b0, b1, b2, b3] at h
        exact ⟨_, _, h, by unfold pdQ; rw [if_neg bm, if_neg qb], CQ_refl hR hM⟩
      · have b2 : b < 0 := by omega
        have h := call_runP 4 vm_X11_paid h
        have h := xw_top (hd := [35]) 7 xD6_ok xc_X11_paid xa_X11_paid (t := 0) rfl h
        simp (maxDischargeDepth := 12) -implicitDefEqProofs [vb_X11_paid_0, vb_X11_paid_16, vb_X11_paid_31, vb_X11_paid_35, vb_X11_paid_60, xI_0, xI_1, xI_3, xI_6, xI_7, xI_8, xI_14, xI_36, xI_38, xI_43, xI_46, xI_49, xI_61, xI_62, xw_X11_paid_0, xw_X11_paid_16, xw_X11_paid_31, xw_X11_paid_35, xw_X11_paid_60, zw_lit, xB_c, xB_s, xB_n, i1_c, j2_c, k1_c, jJ_e, xlg, xls, xla, xpd, ppush, zw_m1, zw_m2, zw_m3, gf_1_2, gf_11_0, tg_11_0, tg_1_2, gv_1_2, gv_0_0, xD1, xD2, xD3, xD4, xD5, xD6, xb1_0, bm, z0, b0, b2] at h
        exact ⟨_, _, h, by unfold pdQ; rw [if_neg bm, if_neg qb], CQ_refl hR hM⟩
