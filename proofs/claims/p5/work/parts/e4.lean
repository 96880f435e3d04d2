def xm_X12_cure : List xbT := [(0, vb_X12_cure_0, some 27), (27, vb_X12_cure_27, some 29), (29, vb_X12_cure_29, some 31), (31, vb_X12_cure_31, some 63), (63, vb_X12_cure_63, some 91), (91, vb_X12_cure_91, some 99), (99, vb_X12_cure_99, some 137), (137, vb_X12_cure_137, some 143), (143, vb_X12_cure_143, some 149), (149, vb_X12_cure_149, none)]
theorem xc_X12_cure : xOK kd_X12_cure xm_X12_cure := ⟨ve_X12_cure_0, ve_X12_cure_27, ve_X12_cure_29, ve_X12_cure_31, ve_X12_cure_63, ve_X12_cure_91, ve_X12_cure_99, ve_X12_cure_137, ve_X12_cure_143, ve_X12_cure_149, trivial⟩
theorem xa_X12_cure : xm_X12_cure.all (fun q => aOKb q.2.1 && !q.2.1.isEmpty) = true := by decide +kernel
theorem xw_X12_cure_0 {E : xE} {res : xR} {N : Nat} {hd : List Nat} {C : xCT} {k : Nat} {L : List Int} {st : List pv} {H : PH} : xW E res N kd_X12_cure xm_X12_cure hd C (k + 1) 0 L st H = xB (fun t L st H => if t ∈ hd then xJ E res N kd_X12_cure t L st H else xW E res N kd_X12_cure xm_X12_cure hd C k t L st H) (REPR E res) C (some 27) vb_X12_cure_0 0 L st H := Eq.trans rfl rfl
theorem xw_X12_cure_27 {E : xE} {res : xR} {N : Nat} {hd : List Nat} {C : xCT} {k : Nat} {L : List Int} {st : List pv} {H : PH} : xW E res N kd_X12_cure xm_X12_cure hd C (k + 1) 27 L st H = xB (fun t L st H => if t ∈ hd then xJ E res N kd_X12_cure t L st H else xW E res N kd_X12_cure xm_X12_cure hd C k t L st H) (REPR E res) C (some 29) vb_X12_cure_27 27 L st H := Eq.trans rfl rfl
theorem xw_X12_cure_29 {E : xE} {res : xR} {N : Nat} {hd : List Nat} {C : xCT} {k : Nat} {L : List Int} {st : List pv} {H : PH} : xW E res N kd_X12_cure xm_X12_cure hd C (k + 1) 29 L st H = xB (fun t L st H => if t ∈ hd then xJ E res N kd_X12_cure t L st H else xW E res N kd_X12_cure xm_X12_cure hd C k t L st H) (REPR E res) C (some 31) vb_X12_cure_29 29 L st H := Eq.trans rfl rfl
theorem xw_X12_cure_31 {E : xE} {res : xR} {N : Nat} {hd : List Nat} {C : xCT} {k : Nat} {L : List Int} {st : List pv} {H : PH} : xW E res N kd_X12_cure xm_X12_cure hd C (k + 1) 31 L st H = xB (fun t L st H => if t ∈ hd then xJ E res N kd_X12_cure t L st H else xW E res N kd_X12_cure xm_X12_cure hd C k t L st H) (REPR E res) C (some 63) vb_X12_cure_31 31 L st H := Eq.trans rfl rfl
theorem xw_X12_cure_63 {E : xE} {res : xR} {N : Nat} {hd : List Nat} {C : xCT} {k : Nat} {L : List Int} {st : List pv} {H : PH} : xW E res N kd_X12_cure xm_X12_cure hd C (k + 1) 63 L st H = xB (fun t L st H => if t ∈ hd then xJ E res N kd_X12_cure t L st H else xW E res N kd_X12_cure xm_X12_cure hd C k t L st H) (REPR E res) C (some 91) vb_X12_cure_63 63 L st H := Eq.trans rfl rfl
theorem xw_X12_cure_91 {E : xE} {res : xR} {N : Nat} {hd : List Nat} {C : xCT} {k : Nat} {L : List Int} {st : List pv} {H : PH} : xW E res N kd_X12_cure xm_X12_cure hd C (k + 1) 91 L st H = xB (fun t L st H => if t ∈ hd then xJ E res N kd_X12_cure t L st H else xW E res N kd_X12_cure xm_X12_cure hd C k t L st H) (REPR E res) C (some 99) vb_X12_cure_91 91 L st H := Eq.trans rfl rfl
theorem xw_X12_cure_99 {E : xE} {res : xR} {N : Nat} {hd : List Nat} {C : xCT} {k : Nat} {L : List Int} {st : List pv} {H : PH} : xW E res N kd_X12_cure xm_X12_cure hd C (k + 1) 99 L st H = xB (fun t L st H => if t ∈ hd then xJ E res N kd_X12_cure t L st H else xW E res N kd_X12_cure xm_X12_cure hd C k t L st H) (REPR E res) C (some 137) vb_X12_cure_99 99 L st H := Eq.trans rfl rfl
theorem xw_X12_cure_137 {E : xE} {res : xR} {N : Nat} {hd : List Nat} {C : xCT} {k : Nat} {L : List Int} {st : List pv} {H : PH} : xW E res N kd_X12_cure xm_X12_cure hd C (k + 1) 137 L st H = xB (fun t L st H => if t ∈ hd then xJ E res N kd_X12_cure t L st H else xW E res N kd_X12_cure xm_X12_cure hd C k t L st H) (REPR E res) C (some 143) vb_X12_cure_137 137 L st H := Eq.trans rfl rfl
theorem xw_X12_cure_143 {E : xE} {res : xR} {N : Nat} {hd : List Nat} {C : xCT} {k : Nat} {L : List Int} {st : List pv} {H : PH} : xW E res N kd_X12_cure xm_X12_cure hd C (k + 1) 143 L st H = xB (fun t L st H => if t ∈ hd then xJ E res N kd_X12_cure t L st H else xW E res N kd_X12_cure xm_X12_cure hd C k t L st H) (REPR E res) C (some 149) vb_X12_cure_143 143 L st H := Eq.trans rfl rfl
theorem xw_X12_cure_149 {E : xE} {res : xR} {N : Nat} {hd : List Nat} {C : xCT} {k : Nat} {L : List Int} {st : List pv} {H : PH} : xW E res N kd_X12_cure xm_X12_cure hd C (k + 1) 149 L st H = xB (fun t L st H => if t ∈ hd then xJ E res N kd_X12_cure t L st H else xW E res N kd_X12_cure xm_X12_cure hd C k t L st H) (REPR E res) C (none) vb_X12_cure_149 149 L st H := Eq.trans rfl rfl
def xm_X12_isCure : List xbT := [(0, vb_X12_isCure_0, some 58), (58, vb_X12_isCure_58, some 59), (59, vb_X12_isCure_59, none)]
theorem xc_X12_isCure : xOK kd_X12_isCure xm_X12_isCure := ⟨ve_X12_isCure_0, ve_X12_isCure_58, ve_X12_isCure_59, trivial⟩
theorem xa_X12_isCure : xm_X12_isCure.all (fun q => aOKb q.2.1 && !q.2.1.isEmpty) = true := by decide +kernel
theorem xw_X12_isCure_0 {E : xE} {res : xR} {N : Nat} {hd : List Nat} {C : xCT} {k : Nat} {L : List Int} {st : List pv} {H : PH} : xW E res N kd_X12_isCure xm_X12_isCure hd C (k + 1) 0 L st H = xB (fun t L st H => if t ∈ hd then xJ E res N kd_X12_isCure t L st H else xW E res N kd_X12_isCure xm_X12_isCure hd C k t L st H) (REPR E res) C (some 58) vb_X12_isCure_0 0 L st H := Eq.trans rfl rfl
theorem xw_X12_isCure_58 {E : xE} {res : xR} {N : Nat} {hd : List Nat} {C : xCT} {k : Nat} {L : List Int} {st : List pv} {H : PH} : xW E res N kd_X12_isCure xm_X12_isCure hd C (k + 1) 58 L st H = xB (fun t L st H => if t ∈ hd then xJ E res N kd_X12_isCure t L st H else xW E res N kd_X12_isCure xm_X12_isCure hd C k t L st H) (REPR E res) C (some 59) vb_X12_isCure_58 58 L st H := Eq.trans rfl rfl
theorem xw_X12_isCure_59 {E : xE} {res : xR} {N : Nat} {hd : List Nat} {C : xCT} {k : Nat} {L : List Int} {st : List pv} {H : PH} : xW E res N kd_X12_isCure xm_X12_isCure hd C (k + 1) 59 L st H = xB (fun t L st H => if t ∈ hd then xJ E res N kd_X12_isCure t L st H else xW E res N kd_X12_isCure xm_X12_isCure hd C k t L st H) (REPR E res) C (none) vb_X12_isCure_59 59 L st H := Eq.trans rfl rfl
/-! ===== cure: what the model leaves as it is ===== -/
def MQc (H H' : PH) : Prop := MO H H' ∧ H' 590 4 = H 590 4 ∧ AT (H 591) (H' 591) ∧ H' 590 2 = H 590 2 ∧ H' 592 = H 592 ∧ (∀ i, 0 ≤ i → i < 1124 → zIn (H 591 i)) ∧ ∀ i, 0 ≤ i → i < 1124 → zIn (H' 591 i)
theorem MQc_s {H H' : PH} (ok : OKR (H 591)) (h : MQs H H') : MQc H H' := ⟨h.1, h.2.1, by rw [h.2.2.1]; exact AT_refl ok.1.2.1.1, h.2.2.2.1, h.2.2.2.2, ok.1.2.2.2.2.2.2, by rw [h.2.2.1]; exact ok.1.2.2.2.2.2.2⟩
theorem MQc_trans {H H1 H' : PH} (a : MQc H H1) (b : MQc H1 H') : MQc H H' := ⟨MO_trans a.1 b.1, b.2.1.trans a.2.1, AT_trans a.2.2.1 b.2.2.1, b.2.2.2.1.trans a.2.2.2.1, b.2.2.2.2.1.trans a.2.2.2.2.1, a.2.2.2.2.2.1, b.2.2.2.2.2.2⟩
set_option maxRecDepth 100000 in
theorem sf_mIsCure (k s t : Int) (H : PH) (ok : OKR (H 591)) (hk : 0 ≤ k ∧ k < 60) (h8 : H 591 1 < 8) (hs : zIn s) (ht : zIn t) : SPEC 264 [(2, 590), (0, k), (0, s), (0, t)] H (fun r H' => (∃ v, r = some (0, v)) ∧ MQc H H') := by
  intro E n' res h
  have a1 := ok.1.2.1
  have z1 : zw (2 * H 591 1) = 2 * H 591 1 := zw_lit (by omega) (by omega)
  have z2 : zw (76 + 2 * H 591 1) = 76 + 2 * H 591 1 := zw_lit (by omega) (by omega)
  have z3 : zw (76 + 2 * H 591 1 + 1) = 76 + 2 * H 591 1 + 1 := zw_lit (by omega) (by omega)
  have z4 : zw (H 591 1 + 1) = H 591 1 + 1 := zw_lit (by omega) (by omega)
  have h := call_runP 6 vm_X12_isCure h
  have h := xw_top (hd := []) 5 xD6_ok xc_X12_isCure xa_X12_isCure (t := 0) rfl h
  simp (maxDischargeDepth := 12) -implicitDefEqProofs [vb_X12_isCure_0, vb_X12_isCure_58, vb_X12_isCure_59, xI_0, xI_1, xI_3, xI_7, xI_8, xI_14, xI_16, xI_36, xI_39, xI_49, xI_51, xI_52, xI_61, xI_62, xw_X12_isCure_0, xw_X12_isCure_58, xw_X12_isCure_59, zw_lit, xB_c, xB_s, xB_n, i1_c, j2_c, k1_c, jJ_e, xlg, xls, xla, xpd, ppush, zw_m1, zw_m2, zw_m3, gf_12_0, tg_12_0, gv_590_0, xD1, xD2, xD3, xD4, xD5, xD6, xb1_0, z1, z2, z3, z4] at h
  obtain ⟨H1, e1⟩ : ∃ X : PH, X = pup (pup (pup H 591 (76 + 2 * H 591 1) s) 591 (76 + 2 * H 591 1 + 1) t) 591 1 (H 591 1 + 1) := ⟨_, rfl⟩
  rw [← e1] at h
  have ne : ∀ c, ¬ c = 591 → H1 c = H c := fun c q => by rw [e1, xp_ne q, xp_ne q, xp_ne q]
  have d1 : H1 591 1 = H 591 1 + 1 := by rw [e1, xp_at, if_pos rfl]
  have dj : ∀ j, ¬ j = 1 → ¬ j = 76 + 2 * H 591 1 → ¬ j = 76 + 2 * H 591 1 + 1 → H1 591 j = H 591 j := fun j q1 q2 q3 => by rw [e1, xp_at, if_neg q1, xp_at, if_neg q3, xp_at, if_neg q2]
  have dz : ∀ j, 0 ≤ j → j < 1124 → zIn (H1 591 j) := fun j j0 j1 => by
    rw [e1, xp_at]
    split
    · unfold zIn
      omega
    · rw [xp_at]
      split
      · exact ht
      · rw [xp_at]
        split
        · exact hs
        · exact ok.1.2.2.2.2.2.2 j j0 j1
  have mb : MB (H1 591) := by
    obtain ⟨b0, b1, b2, b3, b4, b5, b6⟩ := ok.1
    exact ⟨by rw [dj 0 (by decide) (by omega) (by omega)]; exact b0, by omega, by rw [dj 2 (by decide) (by omega) (by omega)]; exact b2, fun b x0 x1 => by rw [dj _ (by omega) (by omega) (by omega)]; exact b3 b x0 x1, fun b x0 x1 => by rw [dj _ (by omega) (by omega) (by omega)]; exact b4 b x0 x1, fun b x0 x1 => by rw [dj _ (by omega) (by omega) (by omega)]; exact b5 b x0 x1, dz⟩
  obtain ⟨r, H2, ⟨rfl, sc⟩, g⟩ := xc_use h (sp_X12_lineRead k H1 mb hk)
  simp only [i1_c] at g
  have f2 : ∀ c, ¬ c = 599 → ¬ c = 590 → H2 c = H1 c := fun c q1 q2 => sc.1 c (by simp [q1]) q2
  have g2 : ∀ i, i ∉ [(17 : Int), 18, 19] → H2 590 i = H 590 i := fun i q => by rw [sc.2 i q, ne 590 (by decide)]
  have mq : MQc H (pup H2 591 1 (H 591 1)) := by
    have n591 : ∀ c, ¬ c = 591 → ¬ c = 599 → ¬ c = 590 → pup H2 591 1 (H 591 1) c = H c := fun c q1 q2 q3 => by rw [xp_ne q1, f2 c q2 q3, ne c q1]
    have n590 : pup H2 591 1 (H 591 1) 590 = H2 590 := xp_ne (by decide)
    refine ⟨⟨fun c hc => n591 c (by omega) (by omega) (by omega), ⟨by rw [n590]; exact g2 51 (by decide), n591 621 (by decide) (by decide) (by decide)⟩, n591 593 (by decide) (by decide) (by decide)⟩, by rw [n590]; exact g2 4 (by decide), ⟨a1.1, fun j j0 j1 hj => ?_⟩, by rw [n590]; exact g2 2 (by decide), n591 592 (by decide) (by decide) (by decide), ok.1.2.2.2.2.2.2, fun j j0 j1 => ?_⟩
    · rw [xp_at, f2 591 (by decide) (by decide)]
      split
      · rename_i q
        rw [q]
      · rename_i q
        exact (dj j q (by omega) (by omega)).symm
    · rw [xp_at, f2 591 (by decide) (by decide)]
      split
      · exact ok.1.2.2.2.2.2.2 1 (by decide) (by decide)
      · exact dz j j0 j1
  rcases g with ⟨_, g⟩ | ⟨_, g⟩ <;> exact ⟨_, _, g, ⟨_, rfl⟩, mq⟩
set_option maxRecDepth 100000 in
theorem lp_mCure (k : Int) (H0 : PH) (ok0 : OKR (H0 591)) (hk : 0 ≤ k ∧ k < H0 591 2) (h8 : H0 591 1 < 8) {E : xE} {res : xR} : ∀ (n : Nat), (∀ (i x y z : Int) (H : PH), 0 ≤ i → MQc H0 H → RUN E res n kd_X12_cure (zget kd_X12_cure 31) 31 [590, k, i, x, y, z] [] H → ∃ v H', MQc H0 H' ∧ REPR E res (some (0, v)) H') ∧ (∀ (i s j z : Int) (H : PH), (0 ≤ i ∧ i ≤ 7) → zIn s → 0 ≤ j → MQc H0 H → RUN E res n kd_X12_cure (zget kd_X12_cure 63) 63 [590, k, i, s, j, z] [] H → ∃ v H', MQc H0 H' ∧ REPR E res (some (0, v)) H') := by
  intro n
  induction n using Nat.strongRecOn with
  | _ n ih =>
    have a0 := ok0.1.2.2.1
    have rows : ∀ H, MQc H0 H → OKR (H 591) ∧ H 591 1 = H0 591 1 ∧ H 591 2 = H0 591 2 := fun H q => ⟨OKR_AT ok0 q.2.2.1 q.2.2.2.2.2.2, (AT_c q.2.2.1 (by decide)).symm, (AT_c q.2.2.1 (by decide)).symm⟩
    constructor
    · intro i x y z H i0 hQ h
      obtain ⟨ok, e1, e2⟩ := rows H hQ
      have l8 := (ok.1.2.2.2.2.2.1 k hk.1 (by omega)).2
      have z1 : zw (12 * k) = 12 * k := zw_lit (by omega) (by omega)
      have z2 : zw (404 + 12 * k) = 404 + 12 * k := zw_lit (by omega) (by omega)
      have z3 : zw (404 + 12 * k + 3) = 404 + 12 * k + 3 := zw_lit (by omega) (by omega)
      have z4 : zw (404 + 12 * k + 4) = 404 + 12 * k + 4 := zw_lit (by omega) (by omega)
      have h := xw_top (hd := [31, 63]) 12 xD6_ok xc_X12_cure xa_X12_cure (t := 31) rfl h
      simp (maxDischargeDepth := 12) -implicitDefEqProofs [vb_X12_cure_0, vb_X12_cure_27, vb_X12_cure_29, vb_X12_cure_31, vb_X12_cure_63, vb_X12_cure_91, vb_X12_cure_99, vb_X12_cure_137, vb_X12_cure_143, vb_X12_cure_149, xI_0, xI_1, xI_3, xI_6, xI_7, xI_8, xI_9, xI_14, xI_15, xI_16, xI_36, xI_37, xI_38, xI_39, xI_43, xI_46, xI_49, xI_51, xI_60, xI_61, xI_62, xw_X12_cure_0, xw_X12_cure_27, xw_X12_cure_29, xw_X12_cure_31, xw_X12_cure_63, xw_X12_cure_91, xw_X12_cure_99, xw_X12_cure_137, xw_X12_cure_143, xw_X12_cure_149, zw_lit, xB_c, xB_s, xB_n, i1_c, j2_c, k1_c, jJ_e, xlg, xls, xla, xpd, ppush, zw_m1, zw_m2, zw_m3, gf_12_0, tg_12_0, gv_590_0, xD1, xD2, xD3, xD4, xD5, xD6, xb1_0, z1, z2, z3, z4] at h
      rcases h with ⟨_, h⟩ | ⟨il, m, hm, h⟩
      · exact ⟨_, H, hQ, h⟩
      · exact (ih m hm).2 i _ 0 _ H ⟨i0, by omega⟩ (by rw [zw_lit (by omega) (by omega)]; exact ok.1.2.2.2.2.2.2 _ (by omega) (by omega)) (by decide) hQ h
    · intro i s j z H i0 hs j0 hQ h
      obtain ⟨ok, e1, e2⟩ := rows H hQ
      have h := xw_top (hd := [31, 63]) 12 xD6_ok xc_X12_cure xa_X12_cure (t := 63) rfl h
      simp (maxDischargeDepth := 12) -implicitDefEqProofs [vb_X12_cure_0, vb_X12_cure_27, vb_X12_cure_29, vb_X12_cure_31, vb_X12_cure_63, vb_X12_cure_91, vb_X12_cure_99, vb_X12_cure_137, vb_X12_cure_143, vb_X12_cure_149, xI_0, xI_1, xI_3, xI_6, xI_7, xI_8, xI_9, xI_14, xI_15, xI_16, xI_36, xI_37, xI_38, xI_39, xI_43, xI_46, xI_49, xI_51, xI_60, xI_61, xI_62, xw_X12_cure_0, xw_X12_cure_27, xw_X12_cure_29, xw_X12_cure_31, xw_X12_cure_63, xw_X12_cure_91, xw_X12_cure_99, xw_X12_cure_137, xw_X12_cure_143, xw_X12_cure_149, zw_lit, xB_c, xB_s, xB_n, i1_c, j2_c, k1_c, jJ_e, xlg, xls, xla, xpd, ppush, zw_m1, zw_m2, zw_m3, gf_12_0, tg_12_0, gv_590_0, xD1, xD2, xD3, xD4, xD5, xD6, xb1_0] at h
      have step : ∀ (z' : Int) (X : PH), j < 36 → MQc H0 X → xJ E res n kd_X12_cure 63 [590, k, i, s, zw (j + 1), z'] [] X → ∃ v H', MQc H0 H' ∧ REPR E res (some (0, v)) H' := fun z' X j36 q ⟨m, hm, w⟩ => (ih m hm).2 i s _ z' X i0 hs (by rw [zw_lit (by omega) (by omega)]; omega) q w
      have cal : ∀ o : Int, zIn o → j < 36 → (xC E n 264 [(2, 590), (0, k), (0, s), (0, o)] H fun r H2 => i1 (match r with | some v => [v] | none => []) fun x r => x = 0 ∧ xJ E res n kd_X12_cure 63 [590, k, i, s, zw (j + 1), o] r H2 ∨ ¬x = 0 ∧ REPR E res (some (0, zw (zw (256 * s) + o))) H2) → ∃ v H', MQc H0 H' ∧ REPR E res (some (0, v)) H' := fun o ho j36 w => by
        obtain ⟨r, H1, ⟨⟨v, rfl⟩, q1⟩, g⟩ := xc_use w (sf_mIsCure k s o H ok ⟨hk.1, by omega⟩ (by omega) hs ho)
        simp only [i1_c] at g
        rcases g with ⟨_, g⟩ | ⟨_, g⟩
        · exact step _ H1 j36 (MQc_trans hQ q1) g
        · exact ⟨_, H1, MQc_trans hQ q1, g⟩
      rcases h with ⟨_, m, hm, h⟩ | ⟨j36, h⟩
      · rw [zw_lit (by omega) (by omega)] at h
        exact (ih m hm).1 (i + 1) _ _ _ H (by omega) hQ h
      · rcases h with ⟨_, m, hm, h⟩ | ⟨_, h⟩
        · rw [zw_lit (by omega) (by omega)] at h
          exact (ih m hm).1 (i + 1) _ _ _ H (by omega) hQ h
        · rcases h with ⟨j26, h⟩ | ⟨j26, h⟩
          · have zo : zw (zw (48 + j) - 26) = 22 + j := by
              rw [zw_lit (x := 48 + j) (by omega) (by omega), zw_lit (by omega) (by omega)]
              omega
            have io : zIn (zw (zw (48 + j) - 26)) := by
              rw [zo]
              unfold zIn
              omega
            rcases h with ⟨_, h⟩ | ⟨_, h⟩
            · exact step _ H j36 hQ h
            · rcases h ok.1.2.1.1 ok.1.2.1.2 with ⟨_, h⟩ | ⟨_, h⟩
              · exact step _ H j36 hQ h
              · exact cal _ io j36 h
          · have io : zIn (zw (65 + j)) := by
              rw [zw_lit (by omega) (by omega)]
              unfold zIn
              omega
            rcases h with ⟨_, h⟩ | ⟨_, h⟩
            · exact step _ H j36 hQ h
            · rcases h ok.1.2.1.1 ok.1.2.1.2 with ⟨_, h⟩ | ⟨_, h⟩
              · exact step _ H j36 hQ h
              · exact cal _ io j36 h
set_option maxRecDepth 100000 in
theorem sf_mCure (k : Int) (H : PH) (ok : OKR (H 591)) : SPEC 265 [(2, 590), (0, k)] H (fun r H' => (∃ v, r = some (0, v)) ∧ MQc H H') := by
  intro E n' res h
  have a2 := ok.1.2.2.1
  have a1 := ok.1.2.1
  have z1 : zw (H 591 2 - 1) = H 591 2 - 1 := zw_lit (by omega) (by omega)
  have h := call_runP 6 vm_X12_cure h
  have h := xw_top (hd := [31, 63]) 12 xD6_ok xc_X12_cure xa_X12_cure (t := 0) rfl h
  simp (maxDischargeDepth := 12) -implicitDefEqProofs [vb_X12_cure_0, vb_X12_cure_27, vb_X12_cure_29, vb_X12_cure_31, vb_X12_cure_63, vb_X12_cure_91, vb_X12_cure_99, vb_X12_cure_137, vb_X12_cure_143, vb_X12_cure_149, xI_0, xI_1, xI_3, xI_6, xI_7, xI_8, xI_9, xI_14, xI_15, xI_16, xI_36, xI_37, xI_38, xI_39, xI_43, xI_46, xI_49, xI_51, xI_60, xI_61, xI_62, xw_X12_cure_0, xw_X12_cure_27, xw_X12_cure_29, xw_X12_cure_31, xw_X12_cure_63, xw_X12_cure_91, xw_X12_cure_99, xw_X12_cure_137, xw_X12_cure_143, xw_X12_cure_149, zw_lit, xB_c, xB_s, xB_n, i1_c, j2_c, k1_c, jJ_e, xlg, xls, xla, xpd, ppush, zw_m1, zw_m2, zw_m3, gf_12_0, tg_12_0, gv_590_0, xD1, xD2, xD3, xD4, xD5, xD6, xb1_0, z1] at h
  rcases h with ⟨_, h⟩ | ⟨hk, ⟨_, h⟩ | ⟨h8, h⟩⟩
  · exact ⟨_, H, h, ⟨_, rfl⟩, MQc_s ok MQs_refl⟩
  · exact ⟨_, H, h, ⟨_, rfl⟩, MQc_s ok MQs_refl⟩
  · obtain ⟨r, H1, ⟨rfl, sc⟩, g⟩ := xc_use h (sp_X12_lineRead k H ok.1 ⟨hk.1, by omega⟩)
    have q : MQc H H1 := MQc_s ok (MQs_SC sc (by decide) (by decide))
    simp only [i1_c] at g
    rcases g with ⟨_, m, hm, g⟩ | ⟨_, g⟩
    · obtain ⟨v, H2, q2, g2⟩ := (lp_mCure k H ok ⟨hk.1, by omega⟩ (by omega) m).1 0 _ _ _ H1 (by decide) q g
      exact ⟨_, H2, g2, ⟨v, rfl⟩, q2⟩
    · exact ⟨_, H1, g, ⟨_, rfl⟩, q⟩
