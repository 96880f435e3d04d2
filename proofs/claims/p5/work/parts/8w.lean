theorem gf_6_0 : gfOK 6 0 = true := by decide +kernel
theorem gf_6_1 : gfOK 6 1 = true := by decide +kernel
theorem gf_6_3 : gfOK 6 3 = true := by decide +kernel
theorem gf_6_4 : gfOK 6 4 = true := by decide +kernel
theorem gf_6_5 : gfOK 6 5 = true := by decide +kernel
theorem gf_6_8 : gfOK 6 8 = true := by decide +kernel
theorem gf_6_9 : gfOK 6 9 = true := by decide +kernel
def xm_X6_weighBills : List xbT := [(0, vb_X6_weighBills_0, some 2), (2, vb_X6_weighBills_2, some 34), (34, vb_X6_weighBills_34, some 35), (35, vb_X6_weighBills_35, some 59), (59, vb_X6_weighBills_59, some 60), (60, vb_X6_weighBills_60, some 105), (105, vb_X6_weighBills_105, none)]
theorem xc_X6_weighBills : xOK kd_X6_weighBills xm_X6_weighBills := ⟨ve_X6_weighBills_0, ve_X6_weighBills_2, ve_X6_weighBills_34, ve_X6_weighBills_35, ve_X6_weighBills_59, ve_X6_weighBills_60, ve_X6_weighBills_105, trivial⟩
theorem xa_X6_weighBills : xm_X6_weighBills.all (fun q => aOKb q.2.1 && !q.2.1.isEmpty) = true := by decide +kernel
theorem xw_X6_weighBills_0 {E : xE} {res : xR} {N : Nat} {hd : List Nat} {C : xCT} {k : Nat} {L : List Int} {st : List pv} {H : PH} : xW E res N kd_X6_weighBills xm_X6_weighBills hd C (k + 1) 0 L st H = xB (fun t L st H => if t ∈ hd then xJ E res N kd_X6_weighBills t L st H else xW E res N kd_X6_weighBills xm_X6_weighBills hd C k t L st H) (REPR E res) C (some 2) vb_X6_weighBills_0 0 L st H := Eq.trans rfl rfl
theorem xw_X6_weighBills_2 {E : xE} {res : xR} {N : Nat} {hd : List Nat} {C : xCT} {k : Nat} {L : List Int} {st : List pv} {H : PH} : xW E res N kd_X6_weighBills xm_X6_weighBills hd C (k + 1) 2 L st H = xB (fun t L st H => if t ∈ hd then xJ E res N kd_X6_weighBills t L st H else xW E res N kd_X6_weighBills xm_X6_weighBills hd C k t L st H) (REPR E res) C (some 34) vb_X6_weighBills_2 2 L st H := Eq.trans rfl rfl
theorem xw_X6_weighBills_34 {E : xE} {res : xR} {N : Nat} {hd : List Nat} {C : xCT} {k : Nat} {L : List Int} {st : List pv} {H : PH} : xW E res N kd_X6_weighBills xm_X6_weighBills hd C (k + 1) 34 L st H = xB (fun t L st H => if t ∈ hd then xJ E res N kd_X6_weighBills t L st H else xW E res N kd_X6_weighBills xm_X6_weighBills hd C k t L st H) (REPR E res) C (some 35) vb_X6_weighBills_34 34 L st H := Eq.trans rfl rfl
theorem xw_X6_weighBills_35 {E : xE} {res : xR} {N : Nat} {hd : List Nat} {C : xCT} {k : Nat} {L : List Int} {st : List pv} {H : PH} : xW E res N kd_X6_weighBills xm_X6_weighBills hd C (k + 1) 35 L st H = xB (fun t L st H => if t ∈ hd then xJ E res N kd_X6_weighBills t L st H else xW E res N kd_X6_weighBills xm_X6_weighBills hd C k t L st H) (REPR E res) C (some 59) vb_X6_weighBills_35 35 L st H := Eq.trans rfl rfl
theorem xw_X6_weighBills_59 {E : xE} {res : xR} {N : Nat} {hd : List Nat} {C : xCT} {k : Nat} {L : List Int} {st : List pv} {H : PH} : xW E res N kd_X6_weighBills xm_X6_weighBills hd C (k + 1) 59 L st H = xB (fun t L st H => if t ∈ hd then xJ E res N kd_X6_weighBills t L st H else xW E res N kd_X6_weighBills xm_X6_weighBills hd C k t L st H) (REPR E res) C (some 60) vb_X6_weighBills_59 59 L st H := Eq.trans rfl rfl
theorem xw_X6_weighBills_60 {E : xE} {res : xR} {N : Nat} {hd : List Nat} {C : xCT} {k : Nat} {L : List Int} {st : List pv} {H : PH} : xW E res N kd_X6_weighBills xm_X6_weighBills hd C (k + 1) 60 L st H = xB (fun t L st H => if t ∈ hd then xJ E res N kd_X6_weighBills t L st H else xW E res N kd_X6_weighBills xm_X6_weighBills hd C k t L st H) (REPR E res) C (some 105) vb_X6_weighBills_60 60 L st H := Eq.trans rfl rfl
theorem xw_X6_weighBills_105 {E : xE} {res : xR} {N : Nat} {hd : List Nat} {C : xCT} {k : Nat} {L : List Int} {st : List pv} {H : PH} : xW E res N kd_X6_weighBills xm_X6_weighBills hd C (k + 1) 105 L st H = xB (fun t L st H => if t ∈ hd then xJ E res N kd_X6_weighBills t L st H else xW E res N kd_X6_weighBills xm_X6_weighBills hd C k t L st H) (REPR E res) C (none) vb_X6_weighBills_105 105 L st H := Eq.trans rfl rfl
def xm_X6_measure : List xbT := [(0, vb_X6_measure_0, some 2), (2, vb_X6_measure_2, some 85), (85, vb_X6_measure_85, some 106), (106, vb_X6_measure_106, some 107), (107, vb_X6_measure_107, some 113), (113, vb_X6_measure_113, none)]
theorem xc_X6_measure : xOK kd_X6_measure xm_X6_measure := ⟨ve_X6_measure_0, ve_X6_measure_2, ve_X6_measure_85, ve_X6_measure_106, ve_X6_measure_107, ve_X6_measure_113, trivial⟩
theorem xa_X6_measure : xm_X6_measure.all (fun q => aOKb q.2.1 && !q.2.1.isEmpty) = true := by decide +kernel
theorem xw_X6_measure_0 {E : xE} {res : xR} {N : Nat} {hd : List Nat} {C : xCT} {k : Nat} {L : List Int} {st : List pv} {H : PH} : xW E res N kd_X6_measure xm_X6_measure hd C (k + 1) 0 L st H = xB (fun t L st H => if t ∈ hd then xJ E res N kd_X6_measure t L st H else xW E res N kd_X6_measure xm_X6_measure hd C k t L st H) (REPR E res) C (some 2) vb_X6_measure_0 0 L st H := Eq.trans rfl rfl
theorem xw_X6_measure_2 {E : xE} {res : xR} {N : Nat} {hd : List Nat} {C : xCT} {k : Nat} {L : List Int} {st : List pv} {H : PH} : xW E res N kd_X6_measure xm_X6_measure hd C (k + 1) 2 L st H = xB (fun t L st H => if t ∈ hd then xJ E res N kd_X6_measure t L st H else xW E res N kd_X6_measure xm_X6_measure hd C k t L st H) (REPR E res) C (some 85) vb_X6_measure_2 2 L st H := Eq.trans rfl rfl
theorem xw_X6_measure_85 {E : xE} {res : xR} {N : Nat} {hd : List Nat} {C : xCT} {k : Nat} {L : List Int} {st : List pv} {H : PH} : xW E res N kd_X6_measure xm_X6_measure hd C (k + 1) 85 L st H = xB (fun t L st H => if t ∈ hd then xJ E res N kd_X6_measure t L st H else xW E res N kd_X6_measure xm_X6_measure hd C k t L st H) (REPR E res) C (some 106) vb_X6_measure_85 85 L st H := Eq.trans rfl rfl
theorem xw_X6_measure_106 {E : xE} {res : xR} {N : Nat} {hd : List Nat} {C : xCT} {k : Nat} {L : List Int} {st : List pv} {H : PH} : xW E res N kd_X6_measure xm_X6_measure hd C (k + 1) 106 L st H = xB (fun t L st H => if t ∈ hd then xJ E res N kd_X6_measure t L st H else xW E res N kd_X6_measure xm_X6_measure hd C k t L st H) (REPR E res) C (some 107) vb_X6_measure_106 106 L st H := Eq.trans rfl rfl
theorem xw_X6_measure_107 {E : xE} {res : xR} {N : Nat} {hd : List Nat} {C : xCT} {k : Nat} {L : List Int} {st : List pv} {H : PH} : xW E res N kd_X6_measure xm_X6_measure hd C (k + 1) 107 L st H = xB (fun t L st H => if t ∈ hd then xJ E res N kd_X6_measure t L st H else xW E res N kd_X6_measure xm_X6_measure hd C k t L st H) (REPR E res) C (some 113) vb_X6_measure_107 107 L st H := Eq.trans rfl rfl
theorem xw_X6_measure_113 {E : xE} {res : xR} {N : Nat} {hd : List Nat} {C : xCT} {k : Nat} {L : List Int} {st : List pv} {H : PH} : xW E res N kd_X6_measure xm_X6_measure hd C (k + 1) 113 L st H = xB (fun t L st H => if t ∈ hd then xJ E res N kd_X6_measure t L st H else xW E res N kd_X6_measure xm_X6_measure hd C k t L st H) (REPR E res) C (none) vb_X6_measure_113 113 L st H := Eq.trans rfl rfl
theorem duF_eq {kd am kd' am' : Int → Int} : ∀ (n : Nat) (i v : Int), (∀ x, i ≤ x → x < i + n → kd x = kd' x ∧ am x = am' x) → duF kd am n i v = duF kd' am' n i v
  | 0, _, _, _ => rfl
  | n + 1, i, v, h => by
    unfold duF
    obtain ⟨e1, e2⟩ := h i (by omega) (by omega)
    rw [e1, e2]
    exact duF_eq n (i + 1) _ (fun x a b => h x (by omega) (by omega))
theorem gvr_all : ∀ s : Nat, s < 72 → zrt 224 s = some (225 + (s : Int)) ∧ zrt 299 s = some (300 + (s : Int)) := by decide +kernel
theorem gv224 {H : PH} {s : Int} (h0 : 0 ≤ s) (h1 : s < 72) : gv H 224 s = 225 + s := by
  obtain ⟨n, rfl⟩ := Int.eq_ofNat_of_zero_le h0
  unfold gv
  have e : zrt (224 : Int).toNat ((n : Int)).toNat = some (225 + (n : Int)) := by
    rw [Int.toNat_natCast]
    exact (gvr_all n (by omega)).1
  rw [e]
theorem gv299 {H : PH} {s : Int} (h0 : 0 ≤ s) (h1 : s < 72) : gv H 299 s = 300 + s := by
  obtain ⟨n, rfl⟩ := Int.eq_ofNat_of_zero_le h0
  unfold gv
  have e : zrt (299 : Int).toNat ((n : Int)).toNat = some (300 + (n : Int)) := by
    rw [Int.toNat_natCast]
    exact (gvr_all n (by omega)).2
  rw [e]
theorem lp_dueC (c : Int) (H : PH) (hc : KB c) (h5 : 0 ≤ H c 5 ∧ H c 5 ≤ 6) {E : xE} {res : xR} : ∀ (n : Nat) (i v : Int), 0 ≤ i → i ≤ H c 5 → RUN E res n kd_X0_dueBales (zget kd_X0_dueBales 7) 7 [c, v, i] [] H → REPR E res (some (0, max 0 (duF (H (c + 1)) (H (c + 2)) (H c 5 - i).toNat i v))) H := by
  obtain ⟨f6, f7, m0, m1, m2, m3, m4, m5, f8⟩ := KB_f hc
  have i1 : 0 ≤ c + 1 := by have := hc.1; omega
  have i2 : 0 ≤ c + 2 := by have := hc.1; omega
  intro n
  induction n using Nat.strongRecOn with
  | _ n ih =>
    intro i v hi0 hi1 h
    have z1 : zw (i + 1) = i + 1 := zw_lit (by omega) (by omega)
    have h := xw_top (hd := [7]) 6 xD6_ok xc_X0_dueBales xa_X0_dueBales (t := 7) rfl h
    simp (maxDischargeDepth := 12) -implicitDefEqProofs [vb_X0_dueBales_0, vb_X0_dueBales_7, vb_X0_dueBales_33, vb_X0_dueBales_39, xI_0, xI_1, xI_3, xI_6, xI_7, xI_15, xI_36, xI_38, xI_46, xI_49, xI_51, xI_55, xI_62, xw_X0_dueBales_0, xw_X0_dueBales_7, xw_X0_dueBales_33, xw_X0_dueBales_39, zw_lit, xB_c, xB_s, xB_n, i1_c, j2_c, k1_c, jJ_e, xlg, xls, xla, xpd, ppush, zw_m1, zw_m2, zw_m3, gf_0_1, gf_0_5, gf_0_6, gf_0_7, tg_0_1, tg_0_5, tg_0_6, tg_0_7, xD1, xD2, xD3, xD4, xD5, xD6, xb1_0, f6, f7, m5, i1, i2, z1, mn_b] at h
    rcases h with ⟨q, h⟩ | ⟨q, h⟩
    · rw [show (H c 5 - i).toNat = 0 by omega]
      exact h
    · rw [show (H c 5 - i).toNat = (H c 5 - (i + 1)).toNat + 1 by omega]
      unfold duF
      rcases h with ⟨w, m, hm, h⟩ | ⟨w, m, hm, h⟩
      · rw [if_neg w]
        exact ih m hm (i + 1) v (by omega) (by omega) h
      · rw [if_pos w]
        exact ih m hm (i + 1) _ (by omega) (by omega) h
theorem sp_X0_dueBales (b : Int) (A : Int → Int) (H : PH) (hB : MB A) (hC : CR H A) (hb : 0 ≤ b ∧ b < A 0) : SPEC 3 [(2, 57 + 3 * b)] H (fun r H' => r = some (0, dueA A b) ∧ H' = H) := by
  intro E n res h
  have hA0 := hB.1
  have hc := KB_of (b := b) hb.1 (by omega)
  obtain ⟨f6, f7, m0, m1, m2, m3, m4, m5, f8⟩ := KB_f hc
  obtain ⟨g0, g1, g2, g3, g4, g5, g6⟩ := hC.2.1 b hb.1 hb.2
  have h5 := hB.2.2.2.2.1 b hb.1 (by omega)
  rw [g5] at h5
  have h := call_runP 3 vm_X0_dueBales h
  have h := xw_top (hd := [7]) 6 xD6_ok xc_X0_dueBales xa_X0_dueBales (t := 0) rfl h
  simp (maxDischargeDepth := 12) -implicitDefEqProofs [vb_X0_dueBales_0, vb_X0_dueBales_7, vb_X0_dueBales_33, vb_X0_dueBales_39, xI_0, xI_1, xI_3, xI_6, xI_7, xI_15, xI_36, xI_38, xI_46, xI_49, xI_51, xI_55, xI_62, xw_X0_dueBales_0, xw_X0_dueBales_7, xw_X0_dueBales_33, xw_X0_dueBales_39, zw_lit, xB_c, xB_s, xB_n, i1_c, j2_c, k1_c, jJ_e, xlg, xls, xla, xpd, ppush, zw_m1, zw_m2, zw_m3, gf_0_1, gf_0_5, gf_0_6, gf_0_7, tg_0_1, tg_0_5, tg_0_6, tg_0_7, xD1, xD2, xD3, xD4, xD5, xD6, xb1_0, m1] at h
  obtain ⟨m, hm, h⟩ := h
  have h := lp_dueC _ H hc h5 m 0 _ (by omega) h5.1 h
  rw [Int.sub_zero, ← g1] at h
  refine ⟨_, H, h, ?_, rfl⟩
  unfold dueA
  rw [g5, duF_eq (kd := fun i => A (92 + 26 * b + 14 + 2 * i)) (am := fun i => A (92 + 26 * b + 14 + 2 * i + 1)) (kd' := H (57 + 3 * b + 1)) (am' := H (57 + 3 * b + 2)) _ 0 _ (fun x x0 x1 => g6 x x0 (by omega))]
/-- what the class weighs -/
theorem lp_weigh (A : Int → Int) (hB : MB A) (ht : 0 ≤ (tlZ A).1 ∧ (tlZ A).1 ≤ 60) {E : xE} {res : xR} : ∀ (n : Nat) (b u v : Int) (H : PH), 0 ≤ b → b ≤ 12 → CI H A → (∀ x, 0 ≤ x → x < 12 + (tlZ A).1 → H 220 x = agdA A x) → (∀ x, 0 ≤ x → x < b → H 222 x = offA A x ∧ H 223 x = wntA A x ∧ H 298 x = wntA A x) → RUN E res n kd_X6_weighBills (zget kd_X6_weighBills 2) 2 [221, b, u, v] [] H → ∃ H' : PH, (∀ x, 0 ≤ x → x < 12 → H' 222 x = offA A x ∧ H' 223 x = wntA A x ∧ H' 298 x = wntA A x) ∧ (∀ c, ¬ c = 222 → ¬ c = 223 → ¬ c = 298 → H' c = H c) ∧ REPR E res none H' := by
  have hA0 := hB.1
  intro n
  induction n using Nat.strongRecOn with
  | _ n ih =>
    intro b u v H hb0 hb1 ci hG hR h
    have a0 : A 0 = H 1 2 := ci.1.1.1
    have z1 : zw (b + 1) = b + 1 := zw_lit (by omega) (by omega)
    by_cases q : 12 ≤ b
    · have h := xw_top (hd := [2]) 9 xD6_ok xc_X6_weighBills xa_X6_weighBills (t := 2) rfl h
      simp (maxDischargeDepth := 12) -implicitDefEqProofs [vb_X6_weighBills_0, vb_X6_weighBills_2, vb_X6_weighBills_34, vb_X6_weighBills_35, vb_X6_weighBills_59, vb_X6_weighBills_60, vb_X6_weighBills_105, xI_0, xI_1, xI_3, xI_6, xI_7, xI_8, xI_15, xI_36, xI_46, xI_49, xI_51, xI_52, xI_53, xI_55, xI_61, xI_65, xw_X6_weighBills_0, xw_X6_weighBills_2, xw_X6_weighBills_34, xw_X6_weighBills_35, xw_X6_weighBills_59, xw_X6_weighBills_60, xw_X6_weighBills_105, zw_lit, xB_c, xB_s, xB_n, i1_c, j2_c, k1_c, jJ_e, xlg, xls, xla, xpd, ppush, zw_m1, zw_m2, zw_m3, gf_1_1, gf_1_2, gf_6_0, gf_6_1, gf_6_3, gf_6_4, gf_6_8, gf_9_7, tg_1_1, tg_1_2, tg_6_0, tg_6_1, tg_6_3, tg_6_4, tg_6_8, tg_9_7, gv_1_1, gv_1_2, gv_221_0, gv_221_1, gv_221_3, gv_221_4, gv_221_8, gv_215_7, xD1, xD2, xD3, xD4, xD5, xD6, xb1_0, z1] at h
      have h := (h.resolve_right (by omega)).2
      exact ⟨H, fun x x0 x1 => hR x x0 (by omega), fun _ _ _ _ => rfl, h⟩
    · have nxt : ∀ (o w x y : Int), o = offA A b → w = wntA A b → xJ E res n kd_X6_weighBills 2 [221, b + 1, x, y] [] (pup (pup (pup H 222 b o) 223 b w) 298 b w) → ∃ H' : PH, (∀ x, 0 ≤ x → x < 12 → H' 222 x = offA A x ∧ H' 223 x = wntA A x ∧ H' 298 x = wntA A x) ∧ (∀ c, ¬ c = 222 → ¬ c = 223 → ¬ c = 298 → H' c = H c) ∧ REPR E res none H' := by
        rintro o w x y ho hw ⟨m, hm, g⟩
        obtain ⟨H', k1, k2, k3⟩ := ih m hm (b + 1) x y _ (by omega) (by omega) (CI_Z hB ci (fun c hc => by rw [xp_ne (by omega), xp_ne (by omega), xp_ne (by omega)])) (fun x x0 x1 => by rw [xp_ne (by decide), xp_ne (by decide), xp_ne (by decide)]; exact hG x x0 x1) (fun x x0 x1 => by
          have := hR x x0
          rw [xp_ne (by decide), xp_ne (by decide), xp_at, xp_ne (c := 298) (c' := 223) (by decide), xp_at, xp_at, xp_ne (by decide), xp_ne (by decide)]
          by_cases e : x = b
          · rw [if_pos e, if_pos e, if_pos e, e]
            exact ⟨ho, hw, hw⟩
          · rw [if_neg e, if_neg e, if_neg e]
            exact this (by omega)) g
        exact ⟨H', k1, fun c a b d => by rw [k2 c a b d, xp_ne d, xp_ne b, xp_ne a], k3⟩
      by_cases c : b < A 0
      · have g46 : gv H 46 b = 57 + 3 * b := gv46 hb0 (by omega)
        have e5 : H 220 b = agdA A b := hG b hb0 (by omega)
        have h := xw_top (hd := [2]) 9 xD6_ok xc_X6_weighBills xa_X6_weighBills (t := 2) rfl h
        simp (maxDischargeDepth := 12) -implicitDefEqProofs [vb_X6_weighBills_0, vb_X6_weighBills_2, vb_X6_weighBills_34, vb_X6_weighBills_35, vb_X6_weighBills_59, vb_X6_weighBills_60, vb_X6_weighBills_105, xI_0, xI_1, xI_3, xI_6, xI_7, xI_8, xI_15, xI_36, xI_46, xI_49, xI_51, xI_52, xI_53, xI_55, xI_61, xI_65, xw_X6_weighBills_0, xw_X6_weighBills_2, xw_X6_weighBills_34, xw_X6_weighBills_35, xw_X6_weighBills_59, xw_X6_weighBills_60, xw_X6_weighBills_105, zw_lit, xB_c, xB_s, xB_n, i1_c, j2_c, k1_c, jJ_e, xlg, xls, xla, xpd, ppush, zw_m1, zw_m2, zw_m3, gf_1_1, gf_1_2, gf_6_0, gf_6_1, gf_6_3, gf_6_4, gf_6_8, gf_9_7, tg_1_1, tg_1_2, tg_6_0, tg_6_1, tg_6_3, tg_6_4, tg_6_8, tg_9_7, gv_1_1, gv_1_2, gv_221_0, gv_221_1, gv_221_3, gv_221_4, gv_221_8, gv_215_7, xD1, xD2, xD3, xD4, xD5, xD6, xb1_0, z1, ← a0, g46, mn_b] at h
        have h := (h.resolve_left (by omega)).2
        have h := (h.resolve_left (by omega)).2
        obtain ⟨r, H2, ⟨rfl, rfl⟩, h2⟩ := xc_use h (sp_X0_dueBales b A H hB ci.1 ⟨hb0, c⟩)
        simp (maxDischargeDepth := 12) -implicitDefEqProofs [vb_X6_weighBills_0, vb_X6_weighBills_2, vb_X6_weighBills_34, vb_X6_weighBills_35, vb_X6_weighBills_59, vb_X6_weighBills_60, vb_X6_weighBills_105, xI_0, xI_1, xI_3, xI_6, xI_7, xI_8, xI_15, xI_36, xI_46, xI_49, xI_51, xI_52, xI_53, xI_55, xI_61, xI_65, xw_X6_weighBills_0, xw_X6_weighBills_2, xw_X6_weighBills_34, xw_X6_weighBills_35, xw_X6_weighBills_59, xw_X6_weighBills_60, xw_X6_weighBills_105, zw_lit, xB_c, xB_s, xB_n, i1_c, j2_c, k1_c, jJ_e, xlg, xls, xla, xpd, ppush, zw_m1, zw_m2, zw_m3, gf_1_1, gf_1_2, gf_6_0, gf_6_1, gf_6_3, gf_6_4, gf_6_8, gf_9_7, tg_1_1, tg_1_2, tg_6_0, tg_6_1, tg_6_3, tg_6_4, tg_6_8, tg_9_7, gv_1_1, gv_1_2, gv_221_0, gv_221_1, gv_221_3, gv_221_4, gv_221_8, gv_215_7, xD1, xD2, xD3, xD4, xD5, xD6, xb1_0, z1, ← a0, e5, mn_b, xp_ne, xp_at] at h2
        have h2 := (h2.resolve_left (by omega)).2
        refine nxt _ _ _ _ ?_ ?_ h2
        · unfold offA
          rw [if_pos (by omega), if_pos c]
        · unfold wntA
          rw [if_pos c]
      · have z0 : zw 0 = 0 := by decide
        have h := xw_top (hd := [2]) 9 xD6_ok xc_X6_weighBills xa_X6_weighBills (t := 2) rfl h
        simp (maxDischargeDepth := 12) -implicitDefEqProofs [vb_X6_weighBills_0, vb_X6_weighBills_2, vb_X6_weighBills_34, vb_X6_weighBills_35, vb_X6_weighBills_59, vb_X6_weighBills_60, vb_X6_weighBills_105, xI_0, xI_1, xI_3, xI_6, xI_7, xI_8, xI_15, xI_36, xI_46, xI_49, xI_51, xI_52, xI_53, xI_55, xI_61, xI_65, xw_X6_weighBills_0, xw_X6_weighBills_2, xw_X6_weighBills_34, xw_X6_weighBills_35, xw_X6_weighBills_59, xw_X6_weighBills_60, xw_X6_weighBills_105, zw_lit, xB_c, xB_s, xB_n, i1_c, j2_c, k1_c, jJ_e, xlg, xls, xla, xpd, ppush, zw_m1, zw_m2, zw_m3, gf_1_1, gf_1_2, gf_6_0, gf_6_1, gf_6_3, gf_6_4, gf_6_8, gf_9_7, tg_1_1, tg_1_2, tg_6_0, tg_6_1, tg_6_3, tg_6_4, tg_6_8, tg_9_7, gv_1_1, gv_1_2, gv_221_0, gv_221_1, gv_221_3, gv_221_4, gv_221_8, gv_215_7, xD1, xD2, xD3, xD4, xD5, xD6, xb1_0, z1, ← a0, mn_b, z0, xp_ne, xp_at] at h
        have h := (h.resolve_left (by omega)).2
        have h := (h.resolve_right (by omega)).2
        have h := (h.resolve_right (by omega)).2
        refine nxt _ _ _ _ ?_ ?_ h
        · unfold offA
          rw [if_pos (by omega), if_neg c]
        · unfold wntA
          rw [if_neg c]
theorem sp_X6_weighBills (A : Int → Int) (H : PH) (hB : MB A) (ht : 0 ≤ (tlZ A).1 ∧ (tlZ A).1 ≤ 60) (ci : CI H A) (hG : ∀ x, 0 ≤ x → x < 12 + (tlZ A).1 → H 220 x = agdA A x) : SPEC 58 [(2, 221)] H (fun r H' => r = none ∧ (∀ x, 0 ≤ x → x < 12 → H' 222 x = offA A x ∧ H' 223 x = wntA A x ∧ H' 298 x = wntA A x) ∧ (∀ c, ¬ c = 222 → ¬ c = 223 → ¬ c = 298 → H' c = H c)) := by
  intro E n res h
  have h := call_runP 4 vm_X6_weighBills h
  have h := xw_top (hd := [2]) 9 xD6_ok xc_X6_weighBills xa_X6_weighBills (t := 0) rfl h
  simp (maxDischargeDepth := 12) -implicitDefEqProofs [vb_X6_weighBills_0, vb_X6_weighBills_2, vb_X6_weighBills_34, vb_X6_weighBills_35, vb_X6_weighBills_59, vb_X6_weighBills_60, vb_X6_weighBills_105, xI_0, xI_1, xI_3, xI_6, xI_7, xI_8, xI_15, xI_36, xI_46, xI_49, xI_51, xI_52, xI_53, xI_55, xI_61, xI_65, xw_X6_weighBills_0, xw_X6_weighBills_2, xw_X6_weighBills_34, xw_X6_weighBills_35, xw_X6_weighBills_59, xw_X6_weighBills_60, xw_X6_weighBills_105, zw_lit, xB_c, xB_s, xB_n, i1_c, j2_c, k1_c, jJ_e, xlg, xls, xla, xpd, ppush, zw_m1, zw_m2, zw_m3, gf_1_1, gf_1_2, gf_6_0, gf_6_1, gf_6_3, gf_6_4, gf_6_8, gf_9_7, tg_1_1, tg_1_2, tg_6_0, tg_6_1, tg_6_3, tg_6_4, tg_6_8, tg_9_7, gv_1_1, gv_1_2, gv_221_0, gv_221_1, gv_221_3, gv_221_4, gv_221_8, gv_215_7, xD1, xD2, xD3, xD4, xD5, xD6, xb1_0] at h
  obtain ⟨m, hm, h⟩ := h
  obtain ⟨H', g1, g2, g3⟩ := lp_weigh A hB ht m 0 0 0 H (by omega) (by omega) ci hG (fun x x0 x1 => by omega) h
  exact ⟨none, H', g3, rfl, g1, g2⟩
/-- what measuring leaves as it is -/
def MF (s : Int) (H H' : PH) : Prop := (∀ c, ¬ c = 44 → ¬ c = 45 → ¬ KL c → ¬ KL (c - 1) → ¬ c = 225 + s → ¬ c = 300 + s → H' c = H c) ∧ (∀ q, KL q → ∀ i, ¬ i = 4 → H' q i = H q i) ∧ LX H H'
theorem MF_trans {s : Int} {H H1 H2 : PH} (a : MF s H H1) (b : MF s H1 H2) : MF s H H2 := ⟨fun c h1 h2 h3 h4 h5 h6 => (b.1 c h1 h2 h3 h4 h5 h6).trans (a.1 c h1 h2 h3 h4 h5 h6), fun q hq i hi => (b.2.1 q hq i hi).trans (a.2.1 q hq i hi), LX_trans a.2.2 b.2.2⟩
theorem MF_Z {s c i v : Int} {H : PH} (hs : 0 ≤ s ∧ s < 72) (hc : c = 225 + s ∨ c = 300 + s) : MF s H (pup H c i v) := ⟨fun d _ _ _ _ h5 h6 => xp_ne (by omega), fun q hq i _ => congrFun (xp_ne (by have := KZ (Or.inr hq); omega)) i, LX_up (by omega)⟩
theorem CI_gap {H H' : PH} {A : Int → Int} (hB : MB A) (h : CI H A) (g : ∀ c, ¬ c = 44 → ¬ c = 45 → H' c = H c) : CI H' A := by
  obtain ⟨a, b, c⟩ := h
  have hA2 := hB.2.2.1
  have e47 : H' 47 = H 47 := g 47 (by decide) (by decide)
  refine ⟨CR_eq hB c a (fun x x1 x2 x3 _ _ => g x x2 x3) (fun q hq i _ => by have := KL_in hq; rw [g q (by omega) (by omega)]) (fun w hw => by obtain ⟨n1, n2, n3, n4, _⟩ := KW_no hw; exact ⟨g w n1 n2, g _ n3 n4⟩), fun j j0 j1 => ?_, ?_⟩
  · have kj := KL_in (c.1 j j0 (by omega))
    rw [e47, g (H 47 j) (by omega) (by omega), g (H 47 j + 1) (by omega) (by omega)]
    exact b j j0 j1
  · unfold LDi
    rw [e47]
    exact c
theorem lp_measure (s : Int) (A : Int → Int) (hB : MB A) (ht : 0 ≤ (tlZ A).1 ∧ (tlZ A).1 ≤ 60) (hf : ∀ h, 0 ≤ h → h < (tlZ A).1 → 0 ≤ (tlZ A).2.1 h ∧ (tlZ A).2.1 h < A 2) (hs : 0 ≤ s ∧ s < 12 + (tlZ A).1) {E : xE} {res : xR} : ∀ (n : Nat) (b : Int) (H : PH), 0 ≤ b → b ≤ 12 → CI H A → H 222 s = offA A s → (∀ x, 0 ≤ x → x < 12 → H 223 x = wntA A x) → (∀ h, 0 ≤ h → h < (tlZ A).1 → H 217 h = (tlZ A).2.1 h) → (∀ x, 0 ≤ x → x < b → H (300 + s) x = 0 ∧ (0 < offA A s → 0 < wntA A x → H (225 + s) x = apfA A s x)) → RUN E res n kd_X6_measure (zget kd_X6_measure 2) 2 [221, s, b] [] H → ∃ H' : PH, CI H' A ∧ (∀ x, 0 ≤ x → x < 12 → H' (300 + s) x = 0 ∧ (0 < offA A s → 0 < wntA A x → H' (225 + s) x = apfA A s x)) ∧ MF s H H' ∧ REPR E res none H' := by
  have hA0 := hB.1
  intro n
  induction n using Nat.strongRecOn with
  | _ n ih =>
    intro b H hb0 hb1 ci hO hW hF hR h
    have z1 : zw (b + 1) = b + 1 := zw_lit (by omega) (by omega)
    have g299 : ∀ X : PH, gv X 299 s = 300 + s := fun X => gv299 hs.1 (by omega)
    have g224 : ∀ X : PH, gv X 224 s = 225 + s := fun X => gv224 hs.1 (by omega)
    by_cases q : 12 ≤ b
    · have h := xw_top (hd := [2]) 8 xD6_ok xc_X6_measure xa_X6_measure (t := 2) rfl h
      simp (maxDischargeDepth := 12) -implicitDefEqProofs [vb_X6_measure_0, vb_X6_measure_2, vb_X6_measure_85, vb_X6_measure_106, vb_X6_measure_107, vb_X6_measure_113, xI_0, xI_1, xI_3, xI_6, xI_7, xI_8, xI_15, xI_36, xI_42, xI_46, xI_49, xI_51, xI_52, xI_53, xI_61, xI_65, xw_X6_measure_0, xw_X6_measure_2, xw_X6_measure_85, xw_X6_measure_106, xw_X6_measure_107, xw_X6_measure_113, zw_lit, xB_c, xB_s, xB_n, i1_c, j2_c, k1_c, jJ_e, xlg, xls, xla, xpd, ppush, zw_m1, zw_m2, zw_m3, gf_0_0, gf_1_0, gf_1_1, gf_6_0, gf_6_1, gf_6_3, gf_6_4, gf_6_5, gf_6_9, gf_9_3, tg_0_0, tg_1_0, tg_1_1, tg_6_0, tg_6_1, tg_6_3, tg_6_4, tg_6_5, tg_6_9, tg_9_3, gv_1_0, gv_1_1, gv_221_0, gv_221_1, gv_221_3, gv_221_4, gv_221_5, gv_221_9, gv_215_3, xD1, xD2, xD3, xD4, xD5, xD6, xb1_0, z1] at h
      have h := (h.resolve_right (by omega)).2
      exact ⟨H, ci, fun x x0 x1 => hR x x0 (by omega), ⟨fun _ _ _ _ _ _ _ => rfl, fun _ _ _ _ => rfl, LX_refl⟩, h⟩
    · have n222 : ¬ (222 : Int) = 300 + s := by omega
      have n223 : ¬ (223 : Int) = 300 + s := by omega
      have eW := hW b hb0 (by omega)
      have nxt : ∀ (H3 : PH), CI H3 A → MF s H H3 → (∀ x, 0 ≤ x → x < b + 1 → H3 (300 + s) x = 0 ∧ (0 < offA A s → 0 < wntA A x → H3 (225 + s) x = apfA A s x)) → xJ E res n kd_X6_measure 2 [221, s, b + 1] [] H3 → ∃ H' : PH, CI H' A ∧ (∀ x, 0 ≤ x → x < 12 → H' (300 + s) x = 0 ∧ (0 < offA A s → 0 < wntA A x → H' (225 + s) x = apfA A s x)) ∧ MF s H H' ∧ REPR E res none H' := by
        rintro H3 a1 a2 a3 ⟨m, hm, g⟩
        have nl : ∀ c : Int, 213 ≤ c → c ≤ 300 → ¬ KL c ∧ ¬ KL (c - 1) := fun c c0 c1 => ⟨fun w => by have := KL_in w; omega, fun w => by have := KL_in w; omega⟩
        have e : ∀ c : Int, 213 ≤ c → c ≤ 224 → H3 c = H c := fun c c0 c1 => a2.1 c (by omega) (by omega) (nl c c0 (by omega)).1 (nl c c0 (by omega)).2 (by omega) (by omega)
        obtain ⟨H', k1, k2, k3, k4⟩ := ih m hm (b + 1) H3 (by omega) (by omega) a1 (by rw [e 222 (by omega) (by omega)]; exact hO) (fun x x0 x1 => by rw [e 223 (by omega) (by omega)]; exact hW x x0 x1) (fun x x0 x1 => by rw [e 217 (by omega) (by omega)]; exact hF x x0 x1) a3 g
        exact ⟨H', k1, k2, MF_trans a2 k3, k4⟩
      have ci0 : CI (pup H (300 + s) b 0) A := CI_Z hB ci (fun c hc => xp_ne (by omega))
      have mf0 : MF s H (pup H (300 + s) b 0) := MF_Z ⟨hs.1, by omega⟩ (Or.inr rfl)
      have n1 : ¬ (1 : Int) = 300 + s := by omega
      have n47 : ¬ (47 : Int) = 300 + s := by omega
      have n217 : ¬ (217 : Int) = 300 + s := by omega
      have n57s : ¬ 57 + 3 * s = 300 + s := by omega
      have n57b : ¬ 57 + 3 * b = 300 + s := by omega
      have g46s : s < 12 → ∀ X : PH, gv X 46 s = 57 + 3 * s := fun d X => gv46 hs.1 d
      have g46b : ∀ X : PH, gv X 46 b = 57 + 3 * b := fun X => gv46 hb0 (by omega)
      have kb0 : ∀ X : PH, gv X (57 + 3 * b) 0 = X (57 + 3 * b) 0 := (KB_f (KB_of (b := b) hb0 (by omega))).2.2.1
      have ks0 : s < 12 → ∀ X : PH, gv X (57 + 3 * s) 0 = X (57 + 3 * s) 0 := fun d => (KB_f (KB_of (b := s) hs.1 d)).2.2.1
      by_cases d0 : s < 12
      · have g46s := g46s d0
        have ks0 := ks0 d0
        have h := xw_top (hd := [2]) 8 xD6_ok xc_X6_measure xa_X6_measure (t := 2) rfl h
        simp (maxDischargeDepth := 12) -implicitDefEqProofs [vb_X6_measure_0, vb_X6_measure_2, vb_X6_measure_85, vb_X6_measure_106, vb_X6_measure_107, vb_X6_measure_113, xI_0, xI_1, xI_3, xI_6, xI_7, xI_8, xI_15, xI_36, xI_42, xI_46, xI_49, xI_51, xI_52, xI_53, xI_61, xI_65, xw_X6_measure_0, xw_X6_measure_2, xw_X6_measure_85, xw_X6_measure_106, xw_X6_measure_107, xw_X6_measure_113, zw_lit, xB_c, xB_s, xB_n, i1_c, j2_c, k1_c, jJ_e, xlg, xls, xla, xpd, ppush, zw_m1, zw_m2, zw_m3, gf_0_0, gf_1_0, gf_1_1, gf_6_0, gf_6_1, gf_6_3, gf_6_4, gf_6_5, gf_6_9, gf_9_3, tg_0_0, tg_1_0, tg_1_1, tg_6_0, tg_6_1, tg_6_3, tg_6_4, tg_6_5, tg_6_9, tg_9_3, gv_1_0, gv_1_1, gv_221_0, gv_221_1, gv_221_3, gv_221_4, gv_221_5, gv_221_9, gv_215_3, xD1, xD2, xD3, xD4, xD5, xD6, xb1_0, z1, g299, g224, xp_ne, n222, n223, n1, n47, n217, n57s, n57b, g46s, g46b, kb0, ks0, hO, eW] at h
        have h := (h.resolve_left (by omega)).2
        by_cases c : 0 < offA A s ∧ 0 < wntA A b
        · have h := (h.resolve_left (by omega)).2
          have h := (h.resolve_left (by omega)).2
          have hbA : b < A 0 := by
            have := c.2
            unfold wntA at this
            split at this
            · assumption
            · omega
          have fin : ∀ (H4 : PH) (w : Int), w = apfA A s b → CI H4 A → MF s (pup H (300 + s) b 0) H4 → H4 (300 + s) = pup H (300 + s) b 0 (300 + s) → H4 (225 + s) = H (225 + s) → xJ E res n kd_X6_measure 2 [221, s, b + 1] [] (pup H4 (225 + s) b w) → ∃ H' : PH, CI H' A ∧ (∀ x, 0 ≤ x → x < 12 → H' (300 + s) x = 0 ∧ (0 < offA A s → 0 < wntA A x → H' (225 + s) x = apfA A s x)) ∧ MF s H H' ∧ REPR E res none H' := by
            intro H4 w hw a1 a2 a3 a4 g
            refine nxt _ (CI_Z hB a1 (fun c hc => xp_ne (by omega))) (MF_trans mf0 (MF_trans a2 (MF_Z ⟨hs.1, by omega⟩ (Or.inl rfl)))) (fun x x0 x1 => ?_) g
            rw [xp_ne (by omega), a3, xp_at, xp_at, a4]
            by_cases e : x = b
            · rw [if_pos e, if_pos e, e]
              exact ⟨rfl, fun _ _ => hw⟩
            · rw [if_neg e, if_neg e]
              exact hR x x0 (by omega)
          have vb := (ci.1.2.1 b hb0 hbA).1
          by_cases d : s < 12
          · have hsA : s < A 0 := by
              have := c.1
              unfold offA at this
              rw [if_pos d] at this
              split at this
              · assumption
              · omega
            have h := (h.resolve_left (by omega)).2
            have vs := (ci.1.2.1 s hs.1 hsA).1
            obtain ⟨r, H2, ⟨rfl, hf2⟩, h2⟩ := xc_use h (sp_X8_gap (H (57 + 3 * s) 0) (H (57 + 3 * b) 0) (pup H (300 + s) b 0) (by have := vs.1; have := vs.2.1; omega) (by have := vb.1; have := vb.2.1; omega) (fun i i0 i1 => by have := vs.2.2.1 i i0 (by have := vs.1; omega); omega))
            have ea : apC (pup H (300 + s) b 0) (H (57 + 3 * s) 0) (H (57 + 3 * b) 0) = apfA A s b := by
              unfold apfA bapA apB apA
              rw [if_pos d]
              exact apC_A (fun x y x0 x1 y0 y1 => by rw [xp_ne (by omega)]; exact ci.1.2.2.2.1 x y x0 x1 y0 y1) vs vb
            rw [ea] at h2
            simp (maxDischargeDepth := 12) -implicitDefEqProofs [vb_X6_measure_0, vb_X6_measure_2, vb_X6_measure_85, vb_X6_measure_106, vb_X6_measure_107, vb_X6_measure_113, xI_0, xI_1, xI_3, xI_6, xI_7, xI_8, xI_15, xI_36, xI_42, xI_46, xI_49, xI_51, xI_52, xI_53, xI_61, xI_65, xw_X6_measure_0, xw_X6_measure_2, xw_X6_measure_85, xw_X6_measure_106, xw_X6_measure_107, xw_X6_measure_113, zw_lit, xB_c, xB_s, xB_n, i1_c, j2_c, k1_c, jJ_e, xlg, xls, xla, xpd, ppush, zw_m1, zw_m2, zw_m3, gf_0_0, gf_1_0, gf_1_1, gf_6_0, gf_6_1, gf_6_3, gf_6_4, gf_6_5, gf_6_9, gf_9_3, tg_0_0, tg_1_0, tg_1_1, tg_6_0, tg_6_1, tg_6_3, tg_6_4, tg_6_5, tg_6_9, tg_9_3, gv_1_0, gv_1_1, gv_221_0, gv_221_1, gv_221_3, gv_221_4, gv_221_5, gv_221_9, gv_215_3, xD1, xD2, xD3, xD4, xD5, xD6, xb1_0, z1] at h2
            refine fin H2 _ rfl (CI_gap hB ci0 hf2) ⟨fun c h1 h2 _ _ _ _ => hf2 c h1 h2, fun q hq i _ => by have := KL_in hq; rw [hf2 q (by omega) (by omega)], by rw [hf2 1 (by decide) (by decide)], hf2 47 (by decide) (by decide), fun q hq _ => by have := KL_in hq; rw [hf2 q (by omega) (by omega), hf2 (q + 1) (by omega) (by omega)]; exact ⟨rfl, rfl⟩⟩ (hf2 _ (by omega) (by omega)) ?_ h2
            rw [hf2 _ (by omega) (by omega), xp_ne (by omega)]
          · have h := (h.resolve_right (by omega)).2
            have z12 : zw (s - 12) = s - 12 := zw_lit (by omega) (by omega)
            obtain ⟨l0, l1⟩ := hf (s - 12) (by omega) (by omega)
            have e17 : pup H (300 + s) b 0 217 (zw (s - 12)) = (tlZ A).2.1 (s - 12) := by
              rw [z12, xp_ne (by omega)]
              exact hF _ (by omega) (by omega)
            have e17' : H 217 (zw (s - 12)) = (tlZ A).2.1 (s - 12) := by
              rw [z12]
              exact hF _ (by omega) (by omega)
            have hA2 := hB.2.2.1
            have kq := ci0.2.2.1 _ l0 (by omega)
            try rw [e17] at h
            try rw [e17'] at h
            obtain ⟨r, H2, ⟨rfl, g1, g2, g3⟩, h2⟩ := xc_use h (sp_X1_gapsOf _ A (pup H (300 + s) b 0) hB ⟨l0, l1⟩ ci0.1 kq ci0.2.1)
            have i0 : 0 ≤ pup H (300 + s) b 0 47 ((tlZ A).2.1 (s - 12)) + 1 := by have := KL_in kq; omega
            simp (maxDischargeDepth := 12) -implicitDefEqProofs [vb_X6_measure_0, vb_X6_measure_2, vb_X6_measure_85, vb_X6_measure_106, vb_X6_measure_107, vb_X6_measure_113, xI_0, xI_1, xI_3, xI_6, xI_7, xI_8, xI_15, xI_36, xI_42, xI_46, xI_49, xI_51, xI_52, xI_53, xI_61, xI_65, xw_X6_measure_0, xw_X6_measure_2, xw_X6_measure_85, xw_X6_measure_106, xw_X6_measure_107, xw_X6_measure_113, zw_lit, xB_c, xB_s, xB_n, i1_c, j2_c, k1_c, jJ_e, xlg, xls, xla, xpd, ppush, zw_m1, zw_m2, zw_m3, gf_0_0, gf_1_0, gf_1_1, gf_6_0, gf_6_1, gf_6_3, gf_6_4, gf_6_5, gf_6_9, gf_9_3, tg_0_0, tg_1_0, tg_1_1, tg_6_0, tg_6_1, tg_6_3, tg_6_4, tg_6_5, tg_6_9, tg_9_3, gv_1_0, gv_1_1, gv_221_0, gv_221_1, gv_221_3, gv_221_4, gv_221_5, gv_221_9, gv_215_3, xD1, xD2, xD3, xD4, xD5, xD6, xb1_0, z1, i0, g3 b hb0 hbA] at h2
            have tf := KL_in kq
            refine fin H2 _ (by unfold apfA; rw [if_neg d]) (CI_gaps hB ci0 ⟨l0, l1⟩ g1 g2 g3) ⟨fun c h1 h2 h3 h4 _ _ => g1.1 c h1 h2 (fun e => h3 (e ▸ kq)) (fun e => h4 (by rw [e, show ∀ x : Int, x + 1 - 1 = x by omega]; exact kq)), fun q hq i hi => ?_, LX_g ⟨l0, by rw [← ci0.1.1.2.2.1]; exact l1⟩ kq g1⟩ (g1.1 _ (by omega) (by omega) (fun e => by have := KZ (Or.inr kq); omega) (fun e => by have := KZ (Or.inr kq); omega)) ?_ h2
            · by_cases e : q = pup H (300 + s) b 0 47 ((tlZ A).2.1 (s - 12))
              · rw [e]
                exact g1.2 i hi
              · have := KL_in hq
                rw [g1.1 q (by omega) (by omega) e (fun e => tf.2.2.1 (e ▸ hq))]
            · rw [g1.1 _ (by omega) (by omega) (fun e => by have := KZ (Or.inr kq); omega) (fun e => by have := KZ (Or.inr kq); omega), xp_ne (by omega)]
        · have hr : ∀ x, 0 ≤ x → x < b + 1 → pup H (300 + s) b 0 (300 + s) x = 0 ∧ (0 < offA A s → 0 < wntA A x → pup H (300 + s) b 0 (225 + s) x = apfA A s x) := by
            intro x x0 x1
            rw [xp_at, xp_ne (by omega)]
            by_cases e : x = b
            · rw [if_pos e, e]
              exact ⟨rfl, fun p q => (c ⟨p, q⟩).elim⟩
            · rw [if_neg e]
              exact hR x x0 (by omega)
          rcases h with ⟨_, h⟩ | ⟨c1, h⟩
          · exact nxt _ ci0 mf0 hr h
          · rcases h with ⟨_, h⟩ | ⟨c2, h⟩
            · exact nxt _ ci0 mf0 hr h
            · exact (c ⟨c1, c2⟩).elim
      · skip
        have h := xw_top (hd := [2]) 8 xD6_ok xc_X6_measure xa_X6_measure (t := 2) rfl h
        simp (maxDischargeDepth := 12) -implicitDefEqProofs [vb_X6_measure_0, vb_X6_measure_2, vb_X6_measure_85, vb_X6_measure_106, vb_X6_measure_107, vb_X6_measure_113, xI_0, xI_1, xI_3, xI_6, xI_7, xI_8, xI_15, xI_36, xI_42, xI_46, xI_49, xI_51, xI_52, xI_53, xI_61, xI_65, xw_X6_measure_0, xw_X6_measure_2, xw_X6_measure_85, xw_X6_measure_106, xw_X6_measure_107, xw_X6_measure_113, zw_lit, xB_c, xB_s, xB_n, i1_c, j2_c, k1_c, jJ_e, xlg, xls, xla, xpd, ppush, zw_m1, zw_m2, zw_m3, gf_0_0, gf_1_0, gf_1_1, gf_6_0, gf_6_1, gf_6_3, gf_6_4, gf_6_5, gf_6_9, gf_9_3, tg_0_0, tg_1_0, tg_1_1, tg_6_0, tg_6_1, tg_6_3, tg_6_4, tg_6_5, tg_6_9, tg_9_3, gv_1_0, gv_1_1, gv_221_0, gv_221_1, gv_221_3, gv_221_4, gv_221_5, gv_221_9, gv_215_3, xD1, xD2, xD3, xD4, xD5, xD6, xb1_0, z1, g299, g224, xp_ne, n222, n223, n1, n47, n217, n57s, n57b, g46b, kb0, hO, eW] at h
        have h := (h.resolve_left (by omega)).2
        by_cases c : 0 < offA A s ∧ 0 < wntA A b
        · have h := (h.resolve_left (by omega)).2
          have h := (h.resolve_left (by omega)).2
          have hbA : b < A 0 := by
            have := c.2
            unfold wntA at this
            split at this
            · assumption
            · omega
          have fin : ∀ (H4 : PH) (w : Int), w = apfA A s b → CI H4 A → MF s (pup H (300 + s) b 0) H4 → H4 (300 + s) = pup H (300 + s) b 0 (300 + s) → H4 (225 + s) = H (225 + s) → xJ E res n kd_X6_measure 2 [221, s, b + 1] [] (pup H4 (225 + s) b w) → ∃ H' : PH, CI H' A ∧ (∀ x, 0 ≤ x → x < 12 → H' (300 + s) x = 0 ∧ (0 < offA A s → 0 < wntA A x → H' (225 + s) x = apfA A s x)) ∧ MF s H H' ∧ REPR E res none H' := by
            intro H4 w hw a1 a2 a3 a4 g
            refine nxt _ (CI_Z hB a1 (fun c hc => xp_ne (by omega))) (MF_trans mf0 (MF_trans a2 (MF_Z ⟨hs.1, by omega⟩ (Or.inl rfl)))) (fun x x0 x1 => ?_) g
            rw [xp_ne (by omega), a3, xp_at, xp_at, a4]
            by_cases e : x = b
            · rw [if_pos e, if_pos e, e]
              exact ⟨rfl, fun _ _ => hw⟩
            · rw [if_neg e, if_neg e]
              exact hR x x0 (by omega)
          have vb := (ci.1.2.1 b hb0 hbA).1
          by_cases d : s < 12
          · exact (d0 d).elim
          · have h := (h.resolve_right (by omega)).2
            have z12 : zw (s - 12) = s - 12 := zw_lit (by omega) (by omega)
            obtain ⟨l0, l1⟩ := hf (s - 12) (by omega) (by omega)
            have e17 : pup H (300 + s) b 0 217 (zw (s - 12)) = (tlZ A).2.1 (s - 12) := by
              rw [z12, xp_ne (by omega)]
              exact hF _ (by omega) (by omega)
            have e17' : H 217 (zw (s - 12)) = (tlZ A).2.1 (s - 12) := by
              rw [z12]
              exact hF _ (by omega) (by omega)
            have hA2 := hB.2.2.1
            have kq := ci0.2.2.1 _ l0 (by omega)
            try rw [e17] at h
            try rw [e17'] at h
            obtain ⟨r, H2, ⟨rfl, g1, g2, g3⟩, h2⟩ := xc_use h (sp_X1_gapsOf _ A (pup H (300 + s) b 0) hB ⟨l0, l1⟩ ci0.1 kq ci0.2.1)
            have i0 : 0 ≤ pup H (300 + s) b 0 47 ((tlZ A).2.1 (s - 12)) + 1 := by have := KL_in kq; omega
            simp (maxDischargeDepth := 12) -implicitDefEqProofs [vb_X6_measure_0, vb_X6_measure_2, vb_X6_measure_85, vb_X6_measure_106, vb_X6_measure_107, vb_X6_measure_113, xI_0, xI_1, xI_3, xI_6, xI_7, xI_8, xI_15, xI_36, xI_42, xI_46, xI_49, xI_51, xI_52, xI_53, xI_61, xI_65, xw_X6_measure_0, xw_X6_measure_2, xw_X6_measure_85, xw_X6_measure_106, xw_X6_measure_107, xw_X6_measure_113, zw_lit, xB_c, xB_s, xB_n, i1_c, j2_c, k1_c, jJ_e, xlg, xls, xla, xpd, ppush, zw_m1, zw_m2, zw_m3, gf_0_0, gf_1_0, gf_1_1, gf_6_0, gf_6_1, gf_6_3, gf_6_4, gf_6_5, gf_6_9, gf_9_3, tg_0_0, tg_1_0, tg_1_1, tg_6_0, tg_6_1, tg_6_3, tg_6_4, tg_6_5, tg_6_9, tg_9_3, gv_1_0, gv_1_1, gv_221_0, gv_221_1, gv_221_3, gv_221_4, gv_221_5, gv_221_9, gv_215_3, xD1, xD2, xD3, xD4, xD5, xD6, xb1_0, z1, i0, g3 b hb0 hbA] at h2
            have tf := KL_in kq
            refine fin H2 _ (by unfold apfA; rw [if_neg d]) (CI_gaps hB ci0 ⟨l0, l1⟩ g1 g2 g3) ⟨fun c h1 h2 h3 h4 _ _ => g1.1 c h1 h2 (fun e => h3 (e ▸ kq)) (fun e => h4 (by rw [e, show ∀ x : Int, x + 1 - 1 = x by omega]; exact kq)), fun q hq i hi => ?_, LX_g ⟨l0, by rw [← ci0.1.1.2.2.1]; exact l1⟩ kq g1⟩ (g1.1 _ (by omega) (by omega) (fun e => by have := KZ (Or.inr kq); omega) (fun e => by have := KZ (Or.inr kq); omega)) ?_ h2
            · by_cases e : q = pup H (300 + s) b 0 47 ((tlZ A).2.1 (s - 12))
              · rw [e]
                exact g1.2 i hi
              · have := KL_in hq
                rw [g1.1 q (by omega) (by omega) e (fun e => tf.2.2.1 (e ▸ hq))]
            · rw [g1.1 _ (by omega) (by omega) (fun e => by have := KZ (Or.inr kq); omega) (fun e => by have := KZ (Or.inr kq); omega), xp_ne (by omega)]
        · have hr : ∀ x, 0 ≤ x → x < b + 1 → pup H (300 + s) b 0 (300 + s) x = 0 ∧ (0 < offA A s → 0 < wntA A x → pup H (300 + s) b 0 (225 + s) x = apfA A s x) := by
            intro x x0 x1
            rw [xp_at, xp_ne (by omega)]
            by_cases e : x = b
            · rw [if_pos e, e]
              exact ⟨rfl, fun p q => (c ⟨p, q⟩).elim⟩
            · rw [if_neg e]
              exact hR x x0 (by omega)
          rcases h with ⟨_, h⟩ | ⟨c1, h⟩
          · exact nxt _ ci0 mf0 hr h
          · rcases h with ⟨_, h⟩ | ⟨c2, h⟩
            · exact nxt _ ci0 mf0 hr h
            · exact (c ⟨c1, c2⟩).elim
theorem sp_X6_measure (s : Int) (A : Int → Int) (H : PH) (hB : MB A) (ht : 0 ≤ (tlZ A).1 ∧ (tlZ A).1 ≤ 60) (hf : ∀ h, 0 ≤ h → h < (tlZ A).1 → 0 ≤ (tlZ A).2.1 h ∧ (tlZ A).2.1 h < A 2) (hs : 0 ≤ s ∧ s < 12 + (tlZ A).1) (ci : CI H A) (hO : H 222 s = offA A s) (hW : ∀ x, 0 ≤ x → x < 12 → H 223 x = wntA A x) (hF : ∀ h, 0 ≤ h → h < (tlZ A).1 → H 217 h = (tlZ A).2.1 h) : SPEC 59 [(2, 221), (0, s)] H (fun r H' => r = none ∧ CI H' A ∧ (∀ x, 0 ≤ x → x < 12 → H' (300 + s) x = 0 ∧ (0 < offA A s → 0 < wntA A x → H' (225 + s) x = apfA A s x)) ∧ MF s H H') := by
  intro E n res h
  have h := call_runP 3 vm_X6_measure h
  have h := xw_top (hd := [2]) 8 xD6_ok xc_X6_measure xa_X6_measure (t := 0) rfl h
  simp (maxDischargeDepth := 12) -implicitDefEqProofs [vb_X6_measure_0, vb_X6_measure_2, vb_X6_measure_85, vb_X6_measure_106, vb_X6_measure_107, vb_X6_measure_113, xI_0, xI_1, xI_3, xI_6, xI_7, xI_8, xI_15, xI_36, xI_42, xI_46, xI_49, xI_51, xI_52, xI_53, xI_61, xI_65, xw_X6_measure_0, xw_X6_measure_2, xw_X6_measure_85, xw_X6_measure_106, xw_X6_measure_107, xw_X6_measure_113, zw_lit, xB_c, xB_s, xB_n, i1_c, j2_c, k1_c, jJ_e, xlg, xls, xla, xpd, ppush, zw_m1, zw_m2, zw_m3, gf_0_0, gf_1_0, gf_1_1, gf_6_0, gf_6_1, gf_6_3, gf_6_4, gf_6_5, gf_6_9, gf_9_3, tg_0_0, tg_1_0, tg_1_1, tg_6_0, tg_6_1, tg_6_3, tg_6_4, tg_6_5, tg_6_9, tg_9_3, gv_1_0, gv_1_1, gv_221_0, gv_221_1, gv_221_3, gv_221_4, gv_221_5, gv_221_9, gv_215_3, xD1, xD2, xD3, xD4, xD5, xD6, xb1_0] at h
  obtain ⟨m, hm, h⟩ := h
  obtain ⟨H', g1, g2, g3, g4⟩ := lp_measure s A hB ht hf hs m 0 H (by omega) (by omega) ci hO hW hF (fun x x0 x1 => by omega) h
  exact ⟨none, H', g4, rfl, g1, g2, g3⟩
