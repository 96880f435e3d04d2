theorem pf_5_0 : pfOK 5 0 = true := by decide +kernel
theorem pf_5_1 : pfOK 5 1 = true := by decide +kernel
theorem pf_5_2 : pfOK 5 2 = true := by decide +kernel
theorem pf_5_67 : pfOK 5 67 = true := by decide +kernel
def xm_X1_takeCouple : List xbT := [(0, vb_X1_takeCouple_0, some 21), (21, vb_X1_takeCouple_21, some 49), (49, vb_X1_takeCouple_49, some 53), (53, vb_X1_takeCouple_53, some 62), (62, vb_X1_takeCouple_62, some 81), (81, vb_X1_takeCouple_81, some 87), (87, vb_X1_takeCouple_87, some 98), (98, vb_X1_takeCouple_98, none)]
theorem xc_X1_takeCouple : xOK kd_X1_takeCouple xm_X1_takeCouple := ⟨ve_X1_takeCouple_0, ve_X1_takeCouple_21, ve_X1_takeCouple_49, ve_X1_takeCouple_53, ve_X1_takeCouple_62, ve_X1_takeCouple_81, ve_X1_takeCouple_87, ve_X1_takeCouple_98, trivial⟩
theorem xa_X1_takeCouple : xm_X1_takeCouple.all (fun q => aOKb q.2.1 && !q.2.1.isEmpty) = true := by decide +kernel
theorem xw_X1_takeCouple_0 {E : xE} {res : xR} {N : Nat} {hd : List Nat} {C : xCT} {k : Nat} {L : List Int} {st : List pv} {H : PH} : xW E res N kd_X1_takeCouple xm_X1_takeCouple hd C (k + 1) 0 L st H = xB (fun t L st H => if t ∈ hd then xJ E res N kd_X1_takeCouple t L st H else xW E res N kd_X1_takeCouple xm_X1_takeCouple hd C k t L st H) (REPR E res) C (some 21) vb_X1_takeCouple_0 0 L st H := Eq.trans rfl rfl
theorem xw_X1_takeCouple_21 {E : xE} {res : xR} {N : Nat} {hd : List Nat} {C : xCT} {k : Nat} {L : List Int} {st : List pv} {H : PH} : xW E res N kd_X1_takeCouple xm_X1_takeCouple hd C (k + 1) 21 L st H = xB (fun t L st H => if t ∈ hd then xJ E res N kd_X1_takeCouple t L st H else xW E res N kd_X1_takeCouple xm_X1_takeCouple hd C k t L st H) (REPR E res) C (some 49) vb_X1_takeCouple_21 21 L st H := Eq.trans rfl rfl
theorem xw_X1_takeCouple_49 {E : xE} {res : xR} {N : Nat} {hd : List Nat} {C : xCT} {k : Nat} {L : List Int} {st : List pv} {H : PH} : xW E res N kd_X1_takeCouple xm_X1_takeCouple hd C (k + 1) 49 L st H = xB (fun t L st H => if t ∈ hd then xJ E res N kd_X1_takeCouple t L st H else xW E res N kd_X1_takeCouple xm_X1_takeCouple hd C k t L st H) (REPR E res) C (some 53) vb_X1_takeCouple_49 49 L st H := Eq.trans rfl rfl
theorem xw_X1_takeCouple_53 {E : xE} {res : xR} {N : Nat} {hd : List Nat} {C : xCT} {k : Nat} {L : List Int} {st : List pv} {H : PH} : xW E res N kd_X1_takeCouple xm_X1_takeCouple hd C (k + 1) 53 L st H = xB (fun t L st H => if t ∈ hd then xJ E res N kd_X1_takeCouple t L st H else xW E res N kd_X1_takeCouple xm_X1_takeCouple hd C k t L st H) (REPR E res) C (some 62) vb_X1_takeCouple_53 53 L st H := Eq.trans rfl rfl
theorem xw_X1_takeCouple_62 {E : xE} {res : xR} {N : Nat} {hd : List Nat} {C : xCT} {k : Nat} {L : List Int} {st : List pv} {H : PH} : xW E res N kd_X1_takeCouple xm_X1_takeCouple hd C (k + 1) 62 L st H = xB (fun t L st H => if t ∈ hd then xJ E res N kd_X1_takeCouple t L st H else xW E res N kd_X1_takeCouple xm_X1_takeCouple hd C k t L st H) (REPR E res) C (some 81) vb_X1_takeCouple_62 62 L st H := Eq.trans rfl rfl
theorem xw_X1_takeCouple_81 {E : xE} {res : xR} {N : Nat} {hd : List Nat} {C : xCT} {k : Nat} {L : List Int} {st : List pv} {H : PH} : xW E res N kd_X1_takeCouple xm_X1_takeCouple hd C (k + 1) 81 L st H = xB (fun t L st H => if t ∈ hd then xJ E res N kd_X1_takeCouple t L st H else xW E res N kd_X1_takeCouple xm_X1_takeCouple hd C k t L st H) (REPR E res) C (some 87) vb_X1_takeCouple_81 81 L st H := Eq.trans rfl rfl
theorem xw_X1_takeCouple_87 {E : xE} {res : xR} {N : Nat} {hd : List Nat} {C : xCT} {k : Nat} {L : List Int} {st : List pv} {H : PH} : xW E res N kd_X1_takeCouple xm_X1_takeCouple hd C (k + 1) 87 L st H = xB (fun t L st H => if t ∈ hd then xJ E res N kd_X1_takeCouple t L st H else xW E res N kd_X1_takeCouple xm_X1_takeCouple hd C k t L st H) (REPR E res) C (some 98) vb_X1_takeCouple_87 87 L st H := Eq.trans rfl rfl
theorem xw_X1_takeCouple_98 {E : xE} {res : xR} {N : Nat} {hd : List Nat} {C : xCT} {k : Nat} {L : List Int} {st : List pv} {H : PH} : xW E res N kd_X1_takeCouple xm_X1_takeCouple hd C (k + 1) 98 L st H = xB (fun t L st H => if t ∈ hd then xJ E res N kd_X1_takeCouple t L st H else xW E res N kd_X1_takeCouple xm_X1_takeCouple hd C k t L st H) (REPR E res) C (none) vb_X1_takeCouple_98 98 L st H := Eq.trans rfl rfl
def xm_X1_takeLine : List xbT := [(0, vb_X1_takeLine_0, some 18), (18, vb_X1_takeLine_18, some 56), (56, vb_X1_takeLine_56, some 57), (57, vb_X1_takeLine_57, some 80), (80, vb_X1_takeLine_80, some 81), (81, vb_X1_takeLine_81, some 107), (107, vb_X1_takeLine_107, some 108), (108, vb_X1_takeLine_108, some 124), (124, vb_X1_takeLine_124, some 126), (126, vb_X1_takeLine_126, none)]
theorem xc_X1_takeLine : xOK kd_X1_takeLine xm_X1_takeLine := ⟨ve_X1_takeLine_0, ve_X1_takeLine_18, ve_X1_takeLine_56, ve_X1_takeLine_57, ve_X1_takeLine_80, ve_X1_takeLine_81, ve_X1_takeLine_107, ve_X1_takeLine_108, ve_X1_takeLine_124, ve_X1_takeLine_126, trivial⟩
theorem xa_X1_takeLine : xm_X1_takeLine.all (fun q => aOKb q.2.1 && !q.2.1.isEmpty) = true := by decide +kernel
theorem xw_X1_takeLine_0 {E : xE} {res : xR} {N : Nat} {hd : List Nat} {C : xCT} {k : Nat} {L : List Int} {st : List pv} {H : PH} : xW E res N kd_X1_takeLine xm_X1_takeLine hd C (k + 1) 0 L st H = xB (fun t L st H => if t ∈ hd then xJ E res N kd_X1_takeLine t L st H else xW E res N kd_X1_takeLine xm_X1_takeLine hd C k t L st H) (REPR E res) C (some 18) vb_X1_takeLine_0 0 L st H := Eq.trans rfl rfl
theorem xw_X1_takeLine_18 {E : xE} {res : xR} {N : Nat} {hd : List Nat} {C : xCT} {k : Nat} {L : List Int} {st : List pv} {H : PH} : xW E res N kd_X1_takeLine xm_X1_takeLine hd C (k + 1) 18 L st H = xB (fun t L st H => if t ∈ hd then xJ E res N kd_X1_takeLine t L st H else xW E res N kd_X1_takeLine xm_X1_takeLine hd C k t L st H) (REPR E res) C (some 56) vb_X1_takeLine_18 18 L st H := Eq.trans rfl rfl
theorem xw_X1_takeLine_56 {E : xE} {res : xR} {N : Nat} {hd : List Nat} {C : xCT} {k : Nat} {L : List Int} {st : List pv} {H : PH} : xW E res N kd_X1_takeLine xm_X1_takeLine hd C (k + 1) 56 L st H = xB (fun t L st H => if t ∈ hd then xJ E res N kd_X1_takeLine t L st H else xW E res N kd_X1_takeLine xm_X1_takeLine hd C k t L st H) (REPR E res) C (some 57) vb_X1_takeLine_56 56 L st H := Eq.trans rfl rfl
theorem xw_X1_takeLine_57 {E : xE} {res : xR} {N : Nat} {hd : List Nat} {C : xCT} {k : Nat} {L : List Int} {st : List pv} {H : PH} : xW E res N kd_X1_takeLine xm_X1_takeLine hd C (k + 1) 57 L st H = xB (fun t L st H => if t ∈ hd then xJ E res N kd_X1_takeLine t L st H else xW E res N kd_X1_takeLine xm_X1_takeLine hd C k t L st H) (REPR E res) C (some 80) vb_X1_takeLine_57 57 L st H := Eq.trans rfl rfl
theorem xw_X1_takeLine_80 {E : xE} {res : xR} {N : Nat} {hd : List Nat} {C : xCT} {k : Nat} {L : List Int} {st : List pv} {H : PH} : xW E res N kd_X1_takeLine xm_X1_takeLine hd C (k + 1) 80 L st H = xB (fun t L st H => if t ∈ hd then xJ E res N kd_X1_takeLine t L st H else xW E res N kd_X1_takeLine xm_X1_takeLine hd C k t L st H) (REPR E res) C (some 81) vb_X1_takeLine_80 80 L st H := Eq.trans rfl rfl
theorem xw_X1_takeLine_81 {E : xE} {res : xR} {N : Nat} {hd : List Nat} {C : xCT} {k : Nat} {L : List Int} {st : List pv} {H : PH} : xW E res N kd_X1_takeLine xm_X1_takeLine hd C (k + 1) 81 L st H = xB (fun t L st H => if t ∈ hd then xJ E res N kd_X1_takeLine t L st H else xW E res N kd_X1_takeLine xm_X1_takeLine hd C k t L st H) (REPR E res) C (some 107) vb_X1_takeLine_81 81 L st H := Eq.trans rfl rfl
theorem xw_X1_takeLine_107 {E : xE} {res : xR} {N : Nat} {hd : List Nat} {C : xCT} {k : Nat} {L : List Int} {st : List pv} {H : PH} : xW E res N kd_X1_takeLine xm_X1_takeLine hd C (k + 1) 107 L st H = xB (fun t L st H => if t ∈ hd then xJ E res N kd_X1_takeLine t L st H else xW E res N kd_X1_takeLine xm_X1_takeLine hd C k t L st H) (REPR E res) C (some 108) vb_X1_takeLine_107 107 L st H := Eq.trans rfl rfl
theorem xw_X1_takeLine_108 {E : xE} {res : xR} {N : Nat} {hd : List Nat} {C : xCT} {k : Nat} {L : List Int} {st : List pv} {H : PH} : xW E res N kd_X1_takeLine xm_X1_takeLine hd C (k + 1) 108 L st H = xB (fun t L st H => if t ∈ hd then xJ E res N kd_X1_takeLine t L st H else xW E res N kd_X1_takeLine xm_X1_takeLine hd C k t L st H) (REPR E res) C (some 124) vb_X1_takeLine_108 108 L st H := Eq.trans rfl rfl
theorem xw_X1_takeLine_124 {E : xE} {res : xR} {N : Nat} {hd : List Nat} {C : xCT} {k : Nat} {L : List Int} {st : List pv} {H : PH} : xW E res N kd_X1_takeLine xm_X1_takeLine hd C (k + 1) 124 L st H = xB (fun t L st H => if t ∈ hd then xJ E res N kd_X1_takeLine t L st H else xW E res N kd_X1_takeLine xm_X1_takeLine hd C k t L st H) (REPR E res) C (some 126) vb_X1_takeLine_124 124 L st H := Eq.trans rfl rfl
theorem xw_X1_takeLine_126 {E : xE} {res : xR} {N : Nat} {hd : List Nat} {C : xCT} {k : Nat} {L : List Int} {st : List pv} {H : PH} : xW E res N kd_X1_takeLine xm_X1_takeLine hd C (k + 1) 126 L st H = xB (fun t L st H => if t ∈ hd then xJ E res N kd_X1_takeLine t L st H else xW E res N kd_X1_takeLine xm_X1_takeLine hd C k t L st H) (REPR E res) C (none) vb_X1_takeLine_126 126 L st H := Eq.trans rfl rfl
theorem told_iff {sz : Int} {w : Int → Int} {p : Int} {n : Nat} {B : Int → Int} {H : PH} (hn : 1 ≤ n ∧ n ≤ 8) (hs : ∀ i : Int, 0 ≤ i → i < n → ¬ cdW 0 (nxF sz w (p + i)) = 0) (hB : MB B) (hC : CR H B) : (∃ j, 0 ≤ j ∧ j < H 1 2 ∧ H (57 + 3 * j) 0 = mrk sz w 0 p n) ↔ tldP sz w B p n := by
  have vm := mrk_VM (sz := sz) (w := w) (v := 0) (a := p) hn hs
  have e0 : B 0 = H 1 2 := hC.1.1
  constructor
  · rintro ⟨j, j0, j1, e⟩
    obtain ⟨g1, g2⟩ := (VM_inj (hC.2.1 j j0 (by omega)).1 vm).mp e
    exact ⟨j, j0, by omega, g1, fun i i0 i1 => g2 i i0 (by omega)⟩
  · rintro ⟨b, b0, b1, g1, g2⟩
    exact ⟨b, b0, by omega, (VM_inj (hC.2.1 b b0 b1).1 vm).mpr ⟨g1, fun i i0 i1 => g2 i i0 (by omega)⟩⟩
/-- the signs that stand there, as the class takes them -/
theorem rn8 (sz : Int) (w : Int → Int) (v a : Int) : rnF sz w v 8 a = min 8 (rnF sz w v 9 a) := by
  have := rnF_min sz w v 8 a
  omega
theorem rn_cd {sz : Int} {w : Int → Int} {v a : Int} {n : Nat} {i : Int} (h0 : 0 ≤ i) (h1 : i < rnF sz w v n a) : ¬ cdW v (nxF sz w (a + i)) = 0 := cdW_0.mpr (rnF_sg sz w v n a i h0 h1).2
set_option maxRecDepth 100000 in
theorem sp_X1_takeBill (sz a : Int) (w : Int → Int) (A B : Int → Int) (H : PH) (hT : TP sz w a H) (ha : a < sz) (hw : ∀ i, 0 ≤ i → i < sz → 0 ≤ w i ∧ w i ≤ 255) (hX : TXr A B H) : SPEC 7 [(2, 1), (2, 213)] H (fun r H' => FXt A H H' ∧ ((blK sz w a B ∧ r = some (0, 1) ∧ TP sz w (blE sz w a) H' ∧ TXr A (blR sz w a B) H') ∨ (¬ blK sz w a B ∧ r = some (0, 0) ∧ TXr A B H'))) := by
  intro E n res h
  obtain ⟨⟨⟨c0, -⟩, b1, -⟩, -, -, hB, -⟩ := id hX
  have hC := hX.1
  have hB0 := hB.1
  have e2 := hT.2.2.1
  have bd := hT.2.2
  have bad : ∀ H' : PH, PF H H' → ¬ blK sz w a B → REPR E res (some (0, 0)) H' → ∃ r H', REPR E res r H' ∧ FXt A H H' ∧ ((blK sz w a B ∧ r = some (0, 1) ∧ TP sz w (blE sz w a) H' ∧ TXr A (blR sz w a B) H') ∨ (¬ blK sz w a B ∧ r = some (0, 0) ∧ TXr A B H')) := fun H' p k g => ⟨_, H', g, FXt_PF p, Or.inr ⟨k, rfl, TXr_PF hX p⟩⟩
  by_cases n12 : B 0 = 12
  · have q : ¬ H 1 2 < 12 := by omega
    have q' : 12 ≤ H 1 2 := by omega
    have h := call_runP 7 vm_X1_takeBill h
    have h := xw_top (hd := []) 12 xD6_ok xc_X1_takeBill xa_X1_takeBill (t := 0) rfl h
    simp (maxDischargeDepth := 12) -implicitDefEqProofs [vb_X1_takeBill_0, vb_X1_takeBill_18, vb_X1_takeBill_47, vb_X1_takeBill_61, vb_X1_takeBill_78, vb_X1_takeBill_79, vb_X1_takeBill_103, vb_X1_takeBill_104, vb_X1_takeBill_120, vb_X1_takeBill_122, xI_0, xI_1, xI_2, xI_3, xI_5, xI_7, xI_8, xI_12, xI_14, xI_32, xI_33, xI_36, xI_37, xI_38, xI_45, xI_49, xI_50, xI_53, xI_61, xI_62, xw_X1_takeBill_0, xw_X1_takeBill_18, xw_X1_takeBill_47, xw_X1_takeBill_61, xw_X1_takeBill_78, xw_X1_takeBill_79, xw_X1_takeBill_103, xw_X1_takeBill_104, xw_X1_takeBill_120, xw_X1_takeBill_122, zw_lit, xB_c, xB_s, xB_n, i1_c, j2_c, k1_c, jJ_e, xlg, xls, xla, xpd, ppush, zw_m1, zw_m2, zw_m3, gf_1_1, gf_1_2, gf_10_2, pf_1_2, pf_10_2, tg_10_2, tg_1_1, tg_1_2, gv_1_1, gv_1_2, gv_213_2, xD1, xD2, xD3, xD4, xD5, xD6, xb1_0, q, q'] at h
    obtain ⟨r, H2, ⟨rfl, rfl⟩, h⟩ := xc_use h (sp_X10_fail _ H)
    simp (maxDischargeDepth := 12) -implicitDefEqProofs [vb_X1_takeBill_0, vb_X1_takeBill_18, vb_X1_takeBill_47, vb_X1_takeBill_61, vb_X1_takeBill_78, vb_X1_takeBill_79, vb_X1_takeBill_103, vb_X1_takeBill_104, vb_X1_takeBill_120, vb_X1_takeBill_122, xI_0, xI_1, xI_2, xI_3, xI_5, xI_7, xI_8, xI_12, xI_14, xI_32, xI_33, xI_36, xI_37, xI_38, xI_45, xI_49, xI_50, xI_53, xI_61, xI_62, xw_X1_takeBill_0, xw_X1_takeBill_18, xw_X1_takeBill_47, xw_X1_takeBill_61, xw_X1_takeBill_78, xw_X1_takeBill_79, xw_X1_takeBill_103, xw_X1_takeBill_104, xw_X1_takeBill_120, xw_X1_takeBill_122, zw_lit, xB_c, xB_s, xB_n, i1_c, j2_c, k1_c, jJ_e, xlg, xls, xla, xpd, ppush, zw_m1, zw_m2, zw_m3, gf_1_1, gf_1_2, gf_10_2, pf_1_2, pf_10_2, tg_10_2, tg_1_1, tg_1_2, gv_1_1, gv_1_2, gv_213_2, xD1, xD2, xD3, xD4, xD5, xD6, xb1_0] at h
    exact bad _ (PF_up (Or.inr rfl)) (fun k => k.1 n12) h
  · have q : H 1 2 < 12 := by omega
    have q' : ¬ 12 ≤ H 1 2 := by omega
    have z1 : zw (a + 1) = a + 1 := zw_lit (by omega) (by omega)
    have h := call_runP 7 vm_X1_takeBill h
    have h := xw_top (hd := []) 12 xD6_ok xc_X1_takeBill xa_X1_takeBill (t := 0) rfl h
    simp (maxDischargeDepth := 12) -implicitDefEqProofs [vb_X1_takeBill_0, vb_X1_takeBill_18, vb_X1_takeBill_47, vb_X1_takeBill_61, vb_X1_takeBill_78, vb_X1_takeBill_79, vb_X1_takeBill_103, vb_X1_takeBill_104, vb_X1_takeBill_120, vb_X1_takeBill_122, xI_0, xI_1, xI_2, xI_3, xI_5, xI_7, xI_8, xI_12, xI_14, xI_32, xI_33, xI_36, xI_37, xI_38, xI_45, xI_49, xI_50, xI_53, xI_61, xI_62, xw_X1_takeBill_0, xw_X1_takeBill_18, xw_X1_takeBill_47, xw_X1_takeBill_61, xw_X1_takeBill_78, xw_X1_takeBill_79, xw_X1_takeBill_103, xw_X1_takeBill_104, xw_X1_takeBill_120, xw_X1_takeBill_122, zw_lit, xB_c, xB_s, xB_n, i1_c, j2_c, k1_c, jJ_e, xlg, xls, xla, xpd, ppush, zw_m1, zw_m2, zw_m3, gf_1_1, gf_1_2, gf_10_2, pf_1_2, pf_10_2, tg_10_2, tg_1_1, tg_1_2, gv_1_1, gv_1_2, gv_213_2, xD1, xD2, xD3, xD4, xD5, xD6, xb1_0, q, q', e2, z1, xp_at] at h
    obtain ⟨r, H1, ⟨p1, rfl, t1⟩, h⟩ := xc_use h (sp_X10_signs 0 sz (a + 1) w _ (TP_up hT ha))
    have p1 := PF_trans (PF_up (Or.inl rfl)) p1
    have r8 := rn8 sz w 0 (a + 1)
    have r9 := rnF_in sz w 0 9 (a + 1)
    have eb1 : b1F sz w a = rnF sz w 0 9 (a + 1) := rfl
    obtain ⟨t, ht⟩ : ∃ t : Nat, rnF sz w 0 8 (a + 1) = t := ⟨(rnF sz w 0 8 (a + 1)).toNat, by omega⟩
    rw [ht] at h t1
    rw [Int.toNat_natCast] at h
    obtain ⟨k0, k1, k2, k3⟩ := mrk_in (sz := sz) (w := w) (v := 0) (a := a + 1) (n := t) (by omega)
    have q0 : qlcmp (mrk sz w 0 (a + 1) t) 0 = 0 ↔ t = 0 := (qlcmp_0 ⟨k0, by omega⟩ (by decide)).trans k3
    by_cases t0 : t = 0
    · have q1 := q0.mpr t0
      simp (maxDischargeDepth := 12) -implicitDefEqProofs [vb_X1_takeBill_0, vb_X1_takeBill_18, vb_X1_takeBill_47, vb_X1_takeBill_61, vb_X1_takeBill_78, vb_X1_takeBill_79, vb_X1_takeBill_103, vb_X1_takeBill_104, vb_X1_takeBill_120, vb_X1_takeBill_122, xI_0, xI_1, xI_2, xI_3, xI_5, xI_7, xI_8, xI_12, xI_14, xI_32, xI_33, xI_36, xI_37, xI_38, xI_45, xI_49, xI_50, xI_53, xI_61, xI_62, xw_X1_takeBill_0, xw_X1_takeBill_18, xw_X1_takeBill_47, xw_X1_takeBill_61, xw_X1_takeBill_78, xw_X1_takeBill_79, xw_X1_takeBill_103, xw_X1_takeBill_104, xw_X1_takeBill_120, xw_X1_takeBill_122, zw_lit, xB_c, xB_s, xB_n, i1_c, j2_c, k1_c, jJ_e, xlg, xls, xla, xpd, ppush, zw_m1, zw_m2, zw_m3, gf_1_1, gf_1_2, gf_10_2, pf_1_2, pf_10_2, tg_10_2, tg_1_1, tg_1_2, gv_1_1, gv_1_2, gv_213_2, xD1, xD2, xD3, xD4, xD5, xD6, xb1_0, q1] at h
      exact bad _ p1 (fun k => by have := k.2.1; omega) h
    · have q1 : ¬ qlcmp (mrk sz w 0 (a + 1) t) 0 = 0 := fun q => t0 (q0.mp q)
      simp (maxDischargeDepth := 12) -implicitDefEqProofs [vb_X1_takeBill_0, vb_X1_takeBill_18, vb_X1_takeBill_47, vb_X1_takeBill_61, vb_X1_takeBill_78, vb_X1_takeBill_79, vb_X1_takeBill_103, vb_X1_takeBill_104, vb_X1_takeBill_120, vb_X1_takeBill_122, xI_0, xI_1, xI_2, xI_3, xI_5, xI_7, xI_8, xI_12, xI_14, xI_32, xI_33, xI_36, xI_37, xI_38, xI_45, xI_49, xI_50, xI_53, xI_61, xI_62, xw_X1_takeBill_0, xw_X1_takeBill_18, xw_X1_takeBill_47, xw_X1_takeBill_61, xw_X1_takeBill_78, xw_X1_takeBill_79, xw_X1_takeBill_103, xw_X1_takeBill_104, xw_X1_takeBill_120, xw_X1_takeBill_122, zw_lit, xB_c, xB_s, xB_n, i1_c, j2_c, k1_c, jJ_e, xlg, xls, xla, xpd, ppush, zw_m1, zw_m2, zw_m3, gf_1_1, gf_1_2, gf_10_2, pf_1_2, pf_10_2, tg_10_2, tg_1_1, tg_1_2, gv_1_1, gv_1_2, gv_213_2, xD1, xD2, xD3, xD4, xD5, xD6, xb1_0, q1] at h
      have t1 := t1 (by omega)
      have eb9 : 1 ≤ b1F sz w a ∧ b1F sz w a ≤ 8 → b1F sz w a = t := fun _ => by omega
      have x1 : TXr A B H1 := TXr_PF hX p1
      have cs : ∀ i, 0 ≤ i → i < (t : Int) → ¬ cdW 0 (nxF sz w (a + 1 + i)) = 0 := fun i i0 i1 => rn_cd (n := 9) i0 (by omega)
      have tl := told_iff (n := t) (by omega) cs hB x1.1
      have e12 : H1 1 2 = B 0 := x1.1.1.1.symm
      obtain ⟨r, H2, ⟨e9, g2⟩, h⟩ := xc_use h (sp_X1_isTold _ ⟨k0, by omega⟩ H1 (by omega) (fun b b0 b1' => VM_rng (x1.1.2.1 b b0 (by omega)).1))
      rw [e9] at h
      rcases g2 with ⟨c2, rfl⟩ | ⟨c2, rfl⟩
      · simp (maxDischargeDepth := 12) -implicitDefEqProofs [vb_X1_takeBill_0, vb_X1_takeBill_18, vb_X1_takeBill_47, vb_X1_takeBill_61, vb_X1_takeBill_78, vb_X1_takeBill_79, vb_X1_takeBill_103, vb_X1_takeBill_104, vb_X1_takeBill_120, vb_X1_takeBill_122, xI_0, xI_1, xI_2, xI_3, xI_5, xI_7, xI_8, xI_12, xI_14, xI_32, xI_33, xI_36, xI_37, xI_38, xI_45, xI_49, xI_50, xI_53, xI_61, xI_62, xw_X1_takeBill_0, xw_X1_takeBill_18, xw_X1_takeBill_47, xw_X1_takeBill_61, xw_X1_takeBill_78, xw_X1_takeBill_79, xw_X1_takeBill_103, xw_X1_takeBill_104, xw_X1_takeBill_120, xw_X1_takeBill_122, zw_lit, xB_c, xB_s, xB_n, i1_c, j2_c, k1_c, jJ_e, xlg, xls, xla, xpd, ppush, zw_m1, zw_m2, zw_m3, gf_1_1, gf_1_2, gf_10_2, pf_1_2, pf_10_2, tg_10_2, tg_1_1, tg_1_2, gv_1_1, gv_1_2, gv_213_2, xD1, xD2, xD3, xD4, xD5, xD6, xb1_0] at h
        obtain ⟨r, H2, ⟨rfl, rfl⟩, h⟩ := xc_use h (sp_X10_fail _ _)
        simp (maxDischargeDepth := 12) -implicitDefEqProofs [vb_X1_takeBill_0, vb_X1_takeBill_18, vb_X1_takeBill_47, vb_X1_takeBill_61, vb_X1_takeBill_78, vb_X1_takeBill_79, vb_X1_takeBill_103, vb_X1_takeBill_104, vb_X1_takeBill_120, vb_X1_takeBill_122, xI_0, xI_1, xI_2, xI_3, xI_5, xI_7, xI_8, xI_12, xI_14, xI_32, xI_33, xI_36, xI_37, xI_38, xI_45, xI_49, xI_50, xI_53, xI_61, xI_62, xw_X1_takeBill_0, xw_X1_takeBill_18, xw_X1_takeBill_47, xw_X1_takeBill_61, xw_X1_takeBill_78, xw_X1_takeBill_79, xw_X1_takeBill_103, xw_X1_takeBill_104, xw_X1_takeBill_120, xw_X1_takeBill_122, zw_lit, xB_c, xB_s, xB_n, i1_c, j2_c, k1_c, jJ_e, xlg, xls, xla, xpd, ppush, zw_m1, zw_m2, zw_m3, gf_1_1, gf_1_2, gf_10_2, pf_1_2, pf_10_2, tg_10_2, tg_1_1, tg_1_2, gv_1_1, gv_1_2, gv_213_2, xD1, xD2, xD3, xD4, xD5, xD6, xb1_0] at h
        refine bad _ (PF_trans p1 (PF_up (Or.inr rfl))) (fun k => ?_) h
        have k1 := k.2.1
        refine k.2.2.1 ?_
        rw [eb9 k1]
        exact tl.mp c2
      · have c2 : ¬ tldP sz w B (a + 1) t := fun y => by
          obtain ⟨j, j0, j1, e⟩ := tl.mpr y
          exact c2 j j0 j1 e
        clear tl
        simp (maxDischargeDepth := 12) -implicitDefEqProofs [vb_X1_takeBill_0, vb_X1_takeBill_18, vb_X1_takeBill_47, vb_X1_takeBill_61, vb_X1_takeBill_78, vb_X1_takeBill_79, vb_X1_takeBill_103, vb_X1_takeBill_104, vb_X1_takeBill_120, vb_X1_takeBill_122, xI_0, xI_1, xI_2, xI_3, xI_5, xI_7, xI_8, xI_12, xI_14, xI_32, xI_33, xI_36, xI_37, xI_38, xI_45, xI_49, xI_50, xI_53, xI_61, xI_62, xw_X1_takeBill_0, xw_X1_takeBill_18, xw_X1_takeBill_47, xw_X1_takeBill_61, xw_X1_takeBill_78, xw_X1_takeBill_79, xw_X1_takeBill_103, xw_X1_takeBill_104, xw_X1_takeBill_120, xw_X1_takeBill_122, zw_lit, xB_c, xB_s, xB_n, i1_c, j2_c, k1_c, jJ_e, xlg, xls, xla, xpd, ppush, zw_m1, zw_m2, zw_m3, gf_1_1, gf_1_2, gf_10_2, pf_1_2, pf_10_2, tg_10_2, tg_1_1, tg_1_2, gv_1_1, gv_1_2, gv_213_2, xD1, xD2, xD3, xD4, xD5, xD6, xb1_0] at h
        obtain ⟨r, H3, ⟨p3, g3⟩, h⟩ := xc_use h (sp_X10_skip 58 sz _ w _ t1 (by decide))
        have p3 := PF_trans p1 p3
        rcases g3 with ⟨c3, rfl, t3⟩ | ⟨c3, rfl⟩
        · -- fewer than nine signs
          have l9 : rnF sz w 0 9 (a + 1) ≤ 8 := by
            by_cases l : rnF sz w 0 9 (a + 1) ≤ 8
            · exact l
            · exfalso
              have := (rnF_sg sz w 0 9 (a + 1) 8 (by decide) (by omega)).2
              rw [show a + 1 + (t : Int) = a + 1 + 8 by omega] at c3
              omega
          have et : (t : Int) = b1F sz w a := by omega
          have e2F : a + 1 + (t : Int) = b2F sz w a := by rw [et]; rfl
          rw [et] at c2
          rw [e2F] at c3 t3
          simp (maxDischargeDepth := 12) -implicitDefEqProofs [vb_X1_takeBill_0, vb_X1_takeBill_18, vb_X1_takeBill_47, vb_X1_takeBill_61, vb_X1_takeBill_78, vb_X1_takeBill_79, vb_X1_takeBill_103, vb_X1_takeBill_104, vb_X1_takeBill_120, vb_X1_takeBill_122, xI_0, xI_1, xI_2, xI_3, xI_5, xI_7, xI_8, xI_12, xI_14, xI_32, xI_33, xI_36, xI_37, xI_38, xI_45, xI_49, xI_50, xI_53, xI_61, xI_62, xw_X1_takeBill_0, xw_X1_takeBill_18, xw_X1_takeBill_47, xw_X1_takeBill_61, xw_X1_takeBill_78, xw_X1_takeBill_79, xw_X1_takeBill_103, xw_X1_takeBill_104, xw_X1_takeBill_120, xw_X1_takeBill_122, zw_lit, xB_c, xB_s, xB_n, i1_c, j2_c, k1_c, jJ_e, xlg, xls, xla, xpd, ppush, zw_m1, zw_m2, zw_m3, gf_1_1, gf_1_2, gf_10_2, pf_1_2, pf_10_2, tg_10_2, tg_1_1, tg_1_2, gv_1_1, gv_1_2, gv_213_2, xD1, xD2, xD3, xD4, xD5, xD6, xb1_0] at h
          obtain ⟨r, H4, ⟨p4, g4⟩, h⟩ := xc_use h (sp_X10_amount 3 3 sz _ w _ rfl (by decide) t3 hw)
          have p4 := PF_trans p3 p4
          rcases g4 with ⟨c4, rfl, t4⟩ | ⟨c4, rfl⟩
          · have ne : ¬ (b3F sz w a).1 = 0 := dgF_ne (by decide) c4
            have n4 : (dgF sz w 3 (b2F sz w a + 1) 0) = b3F sz w a := rfl
            rw [n4] at t4
            simp (maxDischargeDepth := 12) -implicitDefEqProofs [vb_X1_takeBill_0, vb_X1_takeBill_18, vb_X1_takeBill_47, vb_X1_takeBill_61, vb_X1_takeBill_78, vb_X1_takeBill_79, vb_X1_takeBill_103, vb_X1_takeBill_104, vb_X1_takeBill_120, vb_X1_takeBill_122, xI_0, xI_1, xI_2, xI_3, xI_5, xI_7, xI_8, xI_12, xI_14, xI_32, xI_33, xI_36, xI_37, xI_38, xI_45, xI_49, xI_50, xI_53, xI_61, xI_62, xw_X1_takeBill_0, xw_X1_takeBill_18, xw_X1_takeBill_47, xw_X1_takeBill_61, xw_X1_takeBill_78, xw_X1_takeBill_79, xw_X1_takeBill_103, xw_X1_takeBill_104, xw_X1_takeBill_120, xw_X1_takeBill_122, zw_lit, xB_c, xB_s, xB_n, i1_c, j2_c, k1_c, jJ_e, xlg, xls, xla, xpd, ppush, zw_m1, zw_m2, zw_m3, gf_1_1, gf_1_2, gf_10_2, pf_1_2, pf_10_2, tg_10_2, tg_1_1, tg_1_2, gv_1_1, gv_1_2, gv_213_2, xD1, xD2, xD3, xD4, xD5, xD6, xb1_0, n4, ne] at h
            obtain ⟨r, H5, ⟨p5, g5⟩, h⟩ := xc_use h (sp_X10_skip 42 sz _ w _ t4 (by decide))
            have p5 := PF_trans p4 p5
            rcases g5 with ⟨c5, rfl, t5⟩ | ⟨c5, rfl⟩
            · simp (maxDischargeDepth := 12) -implicitDefEqProofs [vb_X1_takeBill_0, vb_X1_takeBill_18, vb_X1_takeBill_47, vb_X1_takeBill_61, vb_X1_takeBill_78, vb_X1_takeBill_79, vb_X1_takeBill_103, vb_X1_takeBill_104, vb_X1_takeBill_120, vb_X1_takeBill_122, xI_0, xI_1, xI_2, xI_3, xI_5, xI_7, xI_8, xI_12, xI_14, xI_32, xI_33, xI_36, xI_37, xI_38, xI_45, xI_49, xI_50, xI_53, xI_61, xI_62, xw_X1_takeBill_0, xw_X1_takeBill_18, xw_X1_takeBill_47, xw_X1_takeBill_61, xw_X1_takeBill_78, xw_X1_takeBill_79, xw_X1_takeBill_103, xw_X1_takeBill_104, xw_X1_takeBill_120, xw_X1_takeBill_122, zw_lit, xB_c, xB_s, xB_n, i1_c, j2_c, k1_c, jJ_e, xlg, xls, xla, xpd, ppush, zw_m1, zw_m2, zw_m3, gf_1_1, gf_1_2, gf_10_2, pf_1_2, pf_10_2, tg_10_2, tg_1_1, tg_1_2, gv_1_1, gv_1_2, gv_213_2, xD1, xD2, xD3, xD4, xD5, xD6, xb1_0] at h
              obtain ⟨r, H6, ⟨p6, g6⟩, h⟩ := xc_use h (sp_X10_amount 4 4 sz _ w _ rfl (by decide) t5 hw)
              have p6 := PF_trans p5 p6
              rcases g6 with ⟨c6, rfl, t6⟩ | ⟨c6, rfl⟩
              · have ne6 : ¬ (b4F sz w a).1 = 0 := dgF_ne (by decide) c6
                have n6 : (dgF sz w 4 ((b3F sz w a).2 + 1) 0) = b4F sz w a := rfl
                rw [n6] at t6
                simp (maxDischargeDepth := 12) -implicitDefEqProofs [vb_X1_takeBill_0, vb_X1_takeBill_18, vb_X1_takeBill_47, vb_X1_takeBill_61, vb_X1_takeBill_78, vb_X1_takeBill_79, vb_X1_takeBill_103, vb_X1_takeBill_104, vb_X1_takeBill_120, vb_X1_takeBill_122, xI_0, xI_1, xI_2, xI_3, xI_5, xI_7, xI_8, xI_12, xI_14, xI_32, xI_33, xI_36, xI_37, xI_38, xI_45, xI_49, xI_50, xI_53, xI_61, xI_62, xw_X1_takeBill_0, xw_X1_takeBill_18, xw_X1_takeBill_47, xw_X1_takeBill_61, xw_X1_takeBill_78, xw_X1_takeBill_79, xw_X1_takeBill_103, xw_X1_takeBill_104, xw_X1_takeBill_120, xw_X1_takeBill_122, zw_lit, xB_c, xB_s, xB_n, i1_c, j2_c, k1_c, jJ_e, xlg, xls, xla, xpd, ppush, zw_m1, zw_m2, zw_m3, gf_1_1, gf_1_2, gf_10_2, pf_1_2, pf_10_2, tg_10_2, tg_1_1, tg_1_2, gv_1_1, gv_1_2, gv_213_2, xD1, xD2, xD3, xD4, xD5, xD6, xb1_0, n6, ne6] at h
                obtain ⟨r, H7, ⟨p7, g7⟩, h⟩ := xc_use h (sp_X10_skip 59 sz _ w _ t6 (by decide))
                have p7 := PF_trans p6 p7
                rcases g7 with ⟨c7, rfl, t7⟩ | ⟨c7, rfl⟩
                · have g46 : ∀ X : PH, gv X 46 (B 0) = 57 + 3 * B 0 := fun X => gv46 hB0.1 (by omega)
                  have e72 : H7 1 2 = B 0 := by rw [p7.1 1 (by decide)]; exact c0.symm
                  have zb : zw (B 0 + 1) = B 0 + 1 := zw_lit (by omega) (by omega)
                  simp (maxDischargeDepth := 12) -implicitDefEqProofs [vb_X1_takeBill_0, vb_X1_takeBill_18, vb_X1_takeBill_47, vb_X1_takeBill_61, vb_X1_takeBill_78, vb_X1_takeBill_79, vb_X1_takeBill_103, vb_X1_takeBill_104, vb_X1_takeBill_120, vb_X1_takeBill_122, xI_0, xI_1, xI_2, xI_3, xI_5, xI_7, xI_8, xI_12, xI_14, xI_32, xI_33, xI_36, xI_37, xI_38, xI_45, xI_49, xI_50, xI_53, xI_61, xI_62, xw_X1_takeBill_0, xw_X1_takeBill_18, xw_X1_takeBill_47, xw_X1_takeBill_61, xw_X1_takeBill_78, xw_X1_takeBill_79, xw_X1_takeBill_103, xw_X1_takeBill_104, xw_X1_takeBill_120, xw_X1_takeBill_122, zw_lit, xB_c, xB_s, xB_n, i1_c, j2_c, k1_c, jJ_e, xlg, xls, xla, xpd, ppush, zw_m1, zw_m2, zw_m3, gf_1_1, gf_1_2, gf_10_2, pf_1_2, pf_10_2, tg_10_2, tg_1_1, tg_1_2, gv_1_1, gv_1_2, gv_213_2, xD1, xD2, xD3, xD4, xD5, xD6, xb1_0, g46, e72] at h
                  obtain ⟨r, H8, ⟨rfl, h8⟩, h⟩ := xc_use h (sp_X0_begin _ _ _ _ _)
                  have e81 : H8 1 = H7 1 := by
                    rw [h8, xp_ne (by omega), xp_ne (by omega), xp_ne (by omega), xp_ne (by omega), xp_ne (by omega), xp_ne (by omega)]
                  have e812 : H8 1 2 = B 0 := by rw [e81]; exact e72
                  simp (maxDischargeDepth := 12) -implicitDefEqProofs [vb_X1_takeBill_0, vb_X1_takeBill_18, vb_X1_takeBill_47, vb_X1_takeBill_61, vb_X1_takeBill_78, vb_X1_takeBill_79, vb_X1_takeBill_103, vb_X1_takeBill_104, vb_X1_takeBill_120, vb_X1_takeBill_122, xI_0, xI_1, xI_2, xI_3, xI_5, xI_7, xI_8, xI_12, xI_14, xI_32, xI_33, xI_36, xI_37, xI_38, xI_45, xI_49, xI_50, xI_53, xI_61, xI_62, xw_X1_takeBill_0, xw_X1_takeBill_18, xw_X1_takeBill_47, xw_X1_takeBill_61, xw_X1_takeBill_78, xw_X1_takeBill_79, xw_X1_takeBill_103, xw_X1_takeBill_104, xw_X1_takeBill_120, xw_X1_takeBill_122, zw_lit, xB_c, xB_s, xB_n, i1_c, j2_c, k1_c, jJ_e, xlg, xls, xla, xpd, ppush, zw_m1, zw_m2, zw_m3, gf_1_1, gf_1_2, gf_10_2, pf_1_2, pf_10_2, tg_10_2, tg_1_1, tg_1_2, gv_1_1, gv_1_2, gv_213_2, xD1, xD2, xD3, xD4, xD5, xD6, xb1_0, e812, zb] at h
                  have kk : blK sz w a B := ⟨n12, by omega, c2, c3, c4, c5, c6, c7⟩
                  have hF : ∀ c, ¬ c = 1 → ¬ c = 57 + 3 * B 0 → ¬ c = 213 → pup H8 1 2 (B 0 + 1) c = H c := fun c d1 d2 d3 => by
                    rw [xp_ne d1, h8, xp_ne d2, xp_ne d2, xp_ne d2, xp_ne d2, xp_ne d2, xp_ne d2]
                    exact p7.1 c d3
                  have h1 : ∀ i, pup H8 1 2 (B 0 + 1) 1 i = if i = 2 then B 0 + 1 else H 1 i := fun i => by
                    rw [xp_at, e81, p7.1 1 (by decide)]
                  have h213 : pup H8 1 2 (B 0 + 1) 213 = H7 213 := by
                    rw [xp_ne (by decide), h8, xp_ne (by omega), xp_ne (by omega), xp_ne (by omega), xp_ne (by omega), xp_ne (by omega), xp_ne (by omega)]
                  have hcell : ∀ i, pup H8 1 2 (B 0 + 1) (57 + 3 * B 0) i = H8 (57 + 3 * B 0) i := fun i => by rw [xp_ne (by omega)]
                  refine ⟨_, _, h, ⟨fun d d1 d2 => hF d (by omega) (by omega) (by omega), fun i i2 i4 => by rw [h1, if_neg i2], fun i i3 => by rw [hF 2 (by decide) (by omega) (by decide)], fun i i2 i3 => by rw [h213]; exact p7.2 i i2 i3, hF 47 (by decide) (by omega) (by decide)⟩, Or.inl ⟨kk, rfl, ?_, ?_⟩⟩
                  · obtain ⟨u1, u2, u3, u4, u5, u6⟩ := t7
                    exact ⟨by rw [h213]; exact u1, by rw [hF 214 (by decide) (by omega) (by decide), ← p7.1 214 (by decide)]; exact u2, by rw [h213]; exact u3, u4, u5, u6⟩
                  · refine TXr_bl hw bd.2.1 hX kk hF h1 ⟨?_, ?_, ?_, ?_, ?_, ?_⟩
                    · rw [hcell, h8]
                      simp only [xp_at]
                      have vm := mrk_VM (sz := sz) (w := w) (v := 0) (a := a + 1) (n := t) (by omega) cs
                      rw [et] at vm
                      exact vm
                    · rw [hcell, h8]
                      simp only [xp_at]
                      rfl
                    · rw [hcell, h8]
                      simp only [xp_at]
                      rfl
                    · rw [hcell, h8]
                      simp only [xp_at]
                      rfl
                    · rw [hcell, h8]
                      simp only [xp_at]
                      rfl
                    · rw [hcell, h8]
                      simp only [xp_at]
                      rfl
                · simp (maxDischargeDepth := 12) -implicitDefEqProofs [vb_X1_takeBill_0, vb_X1_takeBill_18, vb_X1_takeBill_47, vb_X1_takeBill_61, vb_X1_takeBill_78, vb_X1_takeBill_79, vb_X1_takeBill_103, vb_X1_takeBill_104, vb_X1_takeBill_120, vb_X1_takeBill_122, xI_0, xI_1, xI_2, xI_3, xI_5, xI_7, xI_8, xI_12, xI_14, xI_32, xI_33, xI_36, xI_37, xI_38, xI_45, xI_49, xI_50, xI_53, xI_61, xI_62, xw_X1_takeBill_0, xw_X1_takeBill_18, xw_X1_takeBill_47, xw_X1_takeBill_61, xw_X1_takeBill_78, xw_X1_takeBill_79, xw_X1_takeBill_103, xw_X1_takeBill_104, xw_X1_takeBill_120, xw_X1_takeBill_122, zw_lit, xB_c, xB_s, xB_n, i1_c, j2_c, k1_c, jJ_e, xlg, xls, xla, xpd, ppush, zw_m1, zw_m2, zw_m3, gf_1_1, gf_1_2, gf_10_2, pf_1_2, pf_10_2, tg_10_2, tg_1_1, tg_1_2, gv_1_1, gv_1_2, gv_213_2, xD1, xD2, xD3, xD4, xD5, xD6, xb1_0] at h
                  exact bad _ p7 (fun k => c7 k.2.2.2.2.2.2.2) h
              · simp (maxDischargeDepth := 12) -implicitDefEqProofs [vb_X1_takeBill_0, vb_X1_takeBill_18, vb_X1_takeBill_47, vb_X1_takeBill_61, vb_X1_takeBill_78, vb_X1_takeBill_79, vb_X1_takeBill_103, vb_X1_takeBill_104, vb_X1_takeBill_120, vb_X1_takeBill_122, xI_0, xI_1, xI_2, xI_3, xI_5, xI_7, xI_8, xI_12, xI_14, xI_32, xI_33, xI_36, xI_37, xI_38, xI_45, xI_49, xI_50, xI_53, xI_61, xI_62, xw_X1_takeBill_0, xw_X1_takeBill_18, xw_X1_takeBill_47, xw_X1_takeBill_61, xw_X1_takeBill_78, xw_X1_takeBill_79, xw_X1_takeBill_103, xw_X1_takeBill_104, xw_X1_takeBill_120, xw_X1_takeBill_122, zw_lit, xB_c, xB_s, xB_n, i1_c, j2_c, k1_c, jJ_e, xlg, xls, xla, xpd, ppush, zw_m1, zw_m2, zw_m3, gf_1_1, gf_1_2, gf_10_2, pf_1_2, pf_10_2, tg_10_2, tg_1_1, tg_1_2, gv_1_1, gv_1_2, gv_213_2, xD1, xD2, xD3, xD4, xD5, xD6, xb1_0] at h
                exact bad _ p6 (fun k => c6 k.2.2.2.2.2.2.1) h
            · simp (maxDischargeDepth := 12) -implicitDefEqProofs [vb_X1_takeBill_0, vb_X1_takeBill_18, vb_X1_takeBill_47, vb_X1_takeBill_61, vb_X1_takeBill_78, vb_X1_takeBill_79, vb_X1_takeBill_103, vb_X1_takeBill_104, vb_X1_takeBill_120, vb_X1_takeBill_122, xI_0, xI_1, xI_2, xI_3, xI_5, xI_7, xI_8, xI_12, xI_14, xI_32, xI_33, xI_36, xI_37, xI_38, xI_45, xI_49, xI_50, xI_53, xI_61, xI_62, xw_X1_takeBill_0, xw_X1_takeBill_18, xw_X1_takeBill_47, xw_X1_takeBill_61, xw_X1_takeBill_78, xw_X1_takeBill_79, xw_X1_takeBill_103, xw_X1_takeBill_104, xw_X1_takeBill_120, xw_X1_takeBill_122, zw_lit, xB_c, xB_s, xB_n, i1_c, j2_c, k1_c, jJ_e, xlg, xls, xla, xpd, ppush, zw_m1, zw_m2, zw_m3, gf_1_1, gf_1_2, gf_10_2, pf_1_2, pf_10_2, tg_10_2, tg_1_1, tg_1_2, gv_1_1, gv_1_2, gv_213_2, xD1, xD2, xD3, xD4, xD5, xD6, xb1_0] at h
              exact bad _ p5 (fun k => c5 k.2.2.2.2.2.1) h
          · simp (maxDischargeDepth := 12) -implicitDefEqProofs [vb_X1_takeBill_0, vb_X1_takeBill_18, vb_X1_takeBill_47, vb_X1_takeBill_61, vb_X1_takeBill_78, vb_X1_takeBill_79, vb_X1_takeBill_103, vb_X1_takeBill_104, vb_X1_takeBill_120, vb_X1_takeBill_122, xI_0, xI_1, xI_2, xI_3, xI_5, xI_7, xI_8, xI_12, xI_14, xI_32, xI_33, xI_36, xI_37, xI_38, xI_45, xI_49, xI_50, xI_53, xI_61, xI_62, xw_X1_takeBill_0, xw_X1_takeBill_18, xw_X1_takeBill_47, xw_X1_takeBill_61, xw_X1_takeBill_78, xw_X1_takeBill_79, xw_X1_takeBill_103, xw_X1_takeBill_104, xw_X1_takeBill_120, xw_X1_takeBill_122, zw_lit, xB_c, xB_s, xB_n, i1_c, j2_c, k1_c, jJ_e, xlg, xls, xla, xpd, ppush, zw_m1, zw_m2, zw_m3, gf_1_1, gf_1_2, gf_10_2, pf_1_2, pf_10_2, tg_10_2, tg_1_1, tg_1_2, gv_1_1, gv_1_2, gv_213_2, xD1, xD2, xD3, xD4, xD5, xD6, xb1_0] at h
            exact bad _ p4 (fun k => c4 k.2.2.2.2.1) h
        · simp (maxDischargeDepth := 12) -implicitDefEqProofs [vb_X1_takeBill_0, vb_X1_takeBill_18, vb_X1_takeBill_47, vb_X1_takeBill_61, vb_X1_takeBill_78, vb_X1_takeBill_79, vb_X1_takeBill_103, vb_X1_takeBill_104, vb_X1_takeBill_120, vb_X1_takeBill_122, xI_0, xI_1, xI_2, xI_3, xI_5, xI_7, xI_8, xI_12, xI_14, xI_32, xI_33, xI_36, xI_37, xI_38, xI_45, xI_49, xI_50, xI_53, xI_61, xI_62, xw_X1_takeBill_0, xw_X1_takeBill_18, xw_X1_takeBill_47, xw_X1_takeBill_61, xw_X1_takeBill_78, xw_X1_takeBill_79, xw_X1_takeBill_103, xw_X1_takeBill_104, xw_X1_takeBill_120, xw_X1_takeBill_122, zw_lit, xB_c, xB_s, xB_n, i1_c, j2_c, k1_c, jJ_e, xlg, xls, xla, xpd, ppush, zw_m1, zw_m2, zw_m3, gf_1_1, gf_1_2, gf_10_2, pf_1_2, pf_10_2, tg_10_2, tg_1_1, tg_1_2, gv_1_1, gv_1_2, gv_213_2, xD1, xD2, xD3, xD4, xD5, xD6, xb1_0] at h
          refine bad _ p3 (fun k => c3 ?_) h
          have k1 := k.2.1
          have : a + 1 + (t : Int) = b2F sz w a := by
            unfold b2F
            omega
          rw [this]
          exact k.2.2.2.1
