theorem gf_12_27 : gfOK 12 27 = true := by decide +kernel
theorem gf_12_28 : gfOK 12 28 = true := by decide +kernel
theorem gf_12_29 : gfOK 12 29 = true := by decide +kernel
theorem gf_12_30 : gfOK 12 30 = true := by decide +kernel
theorem pf_12_31 : pfOK 12 31 = true := by decide +kernel
theorem pf_12_32 : pfOK 12 32 = true := by decide +kernel
def xm_X12_layShort : List xbT := [(0, vb_X12_layShort_0, some 16), (16, vb_X12_layShort_16, some 60), (60, vb_X12_layShort_60, some 64), (64, vb_X12_layShort_64, some 81), (81, vb_X12_layShort_81, some 82), (82, vb_X12_layShort_82, some 89), (89, vb_X12_layShort_89, some 91), (91, vb_X12_layShort_91, some 129), (129, vb_X12_layShort_129, some 130), (130, vb_X12_layShort_130, some 137), (137, vb_X12_layShort_137, some 139), (139, vb_X12_layShort_139, some 195), (195, vb_X12_layShort_195, some 197), (197, vb_X12_layShort_197, some 204), (204, vb_X12_layShort_204, none)]
theorem xc_X12_layShort : xOK kd_X12_layShort xm_X12_layShort := ⟨ve_X12_layShort_0, ve_X12_layShort_16, ve_X12_layShort_60, ve_X12_layShort_64, ve_X12_layShort_81, ve_X12_layShort_82, ve_X12_layShort_89, ve_X12_layShort_91, ve_X12_layShort_129, ve_X12_layShort_130, ve_X12_layShort_137, ve_X12_layShort_139, ve_X12_layShort_195, ve_X12_layShort_197, ve_X12_layShort_204, trivial⟩
theorem xa_X12_layShort : xm_X12_layShort.all (fun q => aOKb q.2.1 && !q.2.1.isEmpty) = true := by decide +kernel
theorem xw_X12_layShort_0 {E : xE} {res : xR} {N : Nat} {hd : List Nat} {C : xCT} {k : Nat} {L : List Int} {st : List pv} {H : PH} : xW E res N kd_X12_layShort xm_X12_layShort hd C (k + 1) 0 L st H = xB (fun t L st H => if t ∈ hd then xJ E res N kd_X12_layShort t L st H else xW E res N kd_X12_layShort xm_X12_layShort hd C k t L st H) (REPR E res) C (some 16) vb_X12_layShort_0 0 L st H := Eq.trans rfl rfl
theorem xw_X12_layShort_16 {E : xE} {res : xR} {N : Nat} {hd : List Nat} {C : xCT} {k : Nat} {L : List Int} {st : List pv} {H : PH} : xW E res N kd_X12_layShort xm_X12_layShort hd C (k + 1) 16 L st H = xB (fun t L st H => if t ∈ hd then xJ E res N kd_X12_layShort t L st H else xW E res N kd_X12_layShort xm_X12_layShort hd C k t L st H) (REPR E res) C (some 60) vb_X12_layShort_16 16 L st H := Eq.trans rfl rfl
theorem xw_X12_layShort_60 {E : xE} {res : xR} {N : Nat} {hd : List Nat} {C : xCT} {k : Nat} {L : List Int} {st : List pv} {H : PH} : xW E res N kd_X12_layShort xm_X12_layShort hd C (k + 1) 60 L st H = xB (fun t L st H => if t ∈ hd then xJ E res N kd_X12_layShort t L st H else xW E res N kd_X12_layShort xm_X12_layShort hd C k t L st H) (REPR E res) C (some 64) vb_X12_layShort_60 60 L st H := Eq.trans rfl rfl
theorem xw_X12_layShort_64 {E : xE} {res : xR} {N : Nat} {hd : List Nat} {C : xCT} {k : Nat} {L : List Int} {st : List pv} {H : PH} : xW E res N kd_X12_layShort xm_X12_layShort hd C (k + 1) 64 L st H = xB (fun t L st H => if t ∈ hd then xJ E res N kd_X12_layShort t L st H else xW E res N kd_X12_layShort xm_X12_layShort hd C k t L st H) (REPR E res) C (some 81) vb_X12_layShort_64 64 L st H := Eq.trans rfl rfl
theorem xw_X12_layShort_81 {E : xE} {res : xR} {N : Nat} {hd : List Nat} {C : xCT} {k : Nat} {L : List Int} {st : List pv} {H : PH} : xW E res N kd_X12_layShort xm_X12_layShort hd C (k + 1) 81 L st H = xB (fun t L st H => if t ∈ hd then xJ E res N kd_X12_layShort t L st H else xW E res N kd_X12_layShort xm_X12_layShort hd C k t L st H) (REPR E res) C (some 82) vb_X12_layShort_81 81 L st H := Eq.trans rfl rfl
theorem xw_X12_layShort_82 {E : xE} {res : xR} {N : Nat} {hd : List Nat} {C : xCT} {k : Nat} {L : List Int} {st : List pv} {H : PH} : xW E res N kd_X12_layShort xm_X12_layShort hd C (k + 1) 82 L st H = xB (fun t L st H => if t ∈ hd then xJ E res N kd_X12_layShort t L st H else xW E res N kd_X12_layShort xm_X12_layShort hd C k t L st H) (REPR E res) C (some 89) vb_X12_layShort_82 82 L st H := Eq.trans rfl rfl
theorem xw_X12_layShort_89 {E : xE} {res : xR} {N : Nat} {hd : List Nat} {C : xCT} {k : Nat} {L : List Int} {st : List pv} {H : PH} : xW E res N kd_X12_layShort xm_X12_layShort hd C (k + 1) 89 L st H = xB (fun t L st H => if t ∈ hd then xJ E res N kd_X12_layShort t L st H else xW E res N kd_X12_layShort xm_X12_layShort hd C k t L st H) (REPR E res) C (some 91) vb_X12_layShort_89 89 L st H := Eq.trans rfl rfl
theorem xw_X12_layShort_91 {E : xE} {res : xR} {N : Nat} {hd : List Nat} {C : xCT} {k : Nat} {L : List Int} {st : List pv} {H : PH} : xW E res N kd_X12_layShort xm_X12_layShort hd C (k + 1) 91 L st H = xB (fun t L st H => if t ∈ hd then xJ E res N kd_X12_layShort t L st H else xW E res N kd_X12_layShort xm_X12_layShort hd C k t L st H) (REPR E res) C (some 129) vb_X12_layShort_91 91 L st H := Eq.trans rfl rfl
theorem xw_X12_layShort_129 {E : xE} {res : xR} {N : Nat} {hd : List Nat} {C : xCT} {k : Nat} {L : List Int} {st : List pv} {H : PH} : xW E res N kd_X12_layShort xm_X12_layShort hd C (k + 1) 129 L st H = xB (fun t L st H => if t ∈ hd then xJ E res N kd_X12_layShort t L st H else xW E res N kd_X12_layShort xm_X12_layShort hd C k t L st H) (REPR E res) C (some 130) vb_X12_layShort_129 129 L st H := Eq.trans rfl rfl
theorem xw_X12_layShort_130 {E : xE} {res : xR} {N : Nat} {hd : List Nat} {C : xCT} {k : Nat} {L : List Int} {st : List pv} {H : PH} : xW E res N kd_X12_layShort xm_X12_layShort hd C (k + 1) 130 L st H = xB (fun t L st H => if t ∈ hd then xJ E res N kd_X12_layShort t L st H else xW E res N kd_X12_layShort xm_X12_layShort hd C k t L st H) (REPR E res) C (some 137) vb_X12_layShort_130 130 L st H := Eq.trans rfl rfl
theorem xw_X12_layShort_137 {E : xE} {res : xR} {N : Nat} {hd : List Nat} {C : xCT} {k : Nat} {L : List Int} {st : List pv} {H : PH} : xW E res N kd_X12_layShort xm_X12_layShort hd C (k + 1) 137 L st H = xB (fun t L st H => if t ∈ hd then xJ E res N kd_X12_layShort t L st H else xW E res N kd_X12_layShort xm_X12_layShort hd C k t L st H) (REPR E res) C (some 139) vb_X12_layShort_137 137 L st H := Eq.trans rfl rfl
theorem xw_X12_layShort_139 {E : xE} {res : xR} {N : Nat} {hd : List Nat} {C : xCT} {k : Nat} {L : List Int} {st : List pv} {H : PH} : xW E res N kd_X12_layShort xm_X12_layShort hd C (k + 1) 139 L st H = xB (fun t L st H => if t ∈ hd then xJ E res N kd_X12_layShort t L st H else xW E res N kd_X12_layShort xm_X12_layShort hd C k t L st H) (REPR E res) C (some 195) vb_X12_layShort_139 139 L st H := Eq.trans rfl rfl
theorem xw_X12_layShort_195 {E : xE} {res : xR} {N : Nat} {hd : List Nat} {C : xCT} {k : Nat} {L : List Int} {st : List pv} {H : PH} : xW E res N kd_X12_layShort xm_X12_layShort hd C (k + 1) 195 L st H = xB (fun t L st H => if t ∈ hd then xJ E res N kd_X12_layShort t L st H else xW E res N kd_X12_layShort xm_X12_layShort hd C k t L st H) (REPR E res) C (some 197) vb_X12_layShort_195 195 L st H := Eq.trans rfl rfl
theorem xw_X12_layShort_197 {E : xE} {res : xR} {N : Nat} {hd : List Nat} {C : xCT} {k : Nat} {L : List Int} {st : List pv} {H : PH} : xW E res N kd_X12_layShort xm_X12_layShort hd C (k + 1) 197 L st H = xB (fun t L st H => if t ∈ hd then xJ E res N kd_X12_layShort t L st H else xW E res N kd_X12_layShort xm_X12_layShort hd C k t L st H) (REPR E res) C (some 204) vb_X12_layShort_197 197 L st H := Eq.trans rfl rfl
theorem xw_X12_layShort_204 {E : xE} {res : xR} {N : Nat} {hd : List Nat} {C : xCT} {k : Nat} {L : List Int} {st : List pv} {H : PH} : xW E res N kd_X12_layShort xm_X12_layShort hd C (k + 1) 204 L st H = xB (fun t L st H => if t ∈ hd then xJ E res N kd_X12_layShort t L st H else xW E res N kd_X12_layShort xm_X12_layShort hd C k t L st H) (REPR E res) C (none) vb_X12_layShort_204 204 L st H := Eq.trans rfl rfl
def xm_X12_apartFrom : List xbT := [(0, vb_X12_apartFrom_0, some 13), (13, vb_X12_apartFrom_13, none)]
theorem xc_X12_apartFrom : xOK kd_X12_apartFrom xm_X12_apartFrom := ⟨ve_X12_apartFrom_0, ve_X12_apartFrom_13, trivial⟩
theorem xa_X12_apartFrom : xm_X12_apartFrom.all (fun q => aOKb q.2.1 && !q.2.1.isEmpty) = true := by decide +kernel
theorem xw_X12_apartFrom_0 {E : xE} {res : xR} {N : Nat} {hd : List Nat} {C : xCT} {k : Nat} {L : List Int} {st : List pv} {H : PH} : xW E res N kd_X12_apartFrom xm_X12_apartFrom hd C (k + 1) 0 L st H = xB (fun t L st H => if t ∈ hd then xJ E res N kd_X12_apartFrom t L st H else xW E res N kd_X12_apartFrom xm_X12_apartFrom hd C k t L st H) (REPR E res) C (some 13) vb_X12_apartFrom_0 0 L st H := Eq.trans rfl rfl
theorem xw_X12_apartFrom_13 {E : xE} {res : xR} {N : Nat} {hd : List Nat} {C : xCT} {k : Nat} {L : List Int} {st : List pv} {H : PH} : xW E res N kd_X12_apartFrom xm_X12_apartFrom hd C (k + 1) 13 L st H = xB (fun t L st H => if t ∈ hd then xJ E res N kd_X12_apartFrom t L st H else xW E res N kd_X12_apartFrom xm_X12_apartFrom hd C k t L st H) (REPR E res) C (none) vb_X12_apartFrom_13 13 L st H := Eq.trans rfl rfl
def xD6 (E : xE) (n mj : Nat) (as : List pv) (H : PH) (K : Option pv → PH → Prop) : Prop := match mj with
  | 208 => ∀ b, as = [(2, 590), (0, b)] → ((0 ≤ b ∧ b < 12) ∧ MB (H 591)) → K (some (0, dueA (H 591) b)) H
  | _ => xD5 E n mj as H K
theorem xD6_ok {E : xE} {n : Nat} : xCC E n (xD6 E n) := by
  intro mj as H K h
  unfold xD6
  split
  · intro b e pr
    subst e
    obtain ⟨r, H2, ⟨rfl, rfl⟩, g⟩ := xc_use h (sp_X12_due b H pr.1 pr.2)
    exact g
  · exact xD5_ok _ _ _ _ h
/-! short and over -/
def offA (A : Int → Int) (s : Int) : Int := if s < 12 then (if s < A 0 then max 0 (zw (agdA A s - dueA A s)) else 0) else (if s < 12 + (tlZ A).1 then agdA A s else 0)
def wntA (A : Int → Int) (b : Int) : Int := if b < A 0 then max 0 (zw (dueA A b - agdA A b)) else 0
def apfA (A : Int → Int) (s b : Int) : Int := if s < 12 then bapA A s b else lapA A ((tlZ A).2.1 (s - 12)) b
def farA (A : Int → Int) (s b : Int) : Int := if 0 < offA A s ∧ 0 < wntA A b then apfA A s b else 99
theorem tlF_in (A : Int → Int) : ∀ (n : Nat) (k : Int) (t : tS), 0 ≤ k → k + n ≤ 60 → (0 ≤ t.1 ∧ t.1 ≤ k) → (∀ h, 0 ≤ h → h < t.1 → 0 ≤ t.2.1 h ∧ t.2.1 h < 60) → ∀ h, 0 ≤ h → h < (tlF A n k t).1 → 0 ≤ (tlF A n k t).2.1 h ∧ (tlF A n k t).2.1 h < 60
  | 0, _, _, _, _, _, hf => hf
  | n + 1, k, t, h0, h1, ht, hf => by
    unfold tlF
    obtain ⟨i1, i2⟩ := tlS_in (A := A) (k := k) ⟨h0, by omega⟩ ht hf
    exact tlF_in A n (k + 1) _ (by omega) (by omega) i1 i2
theorem tlZ_in {A : Int → Int} (hB : MB A) : ∀ h, 0 ≤ h → h < (tlZ A).1 → 0 ≤ (tlZ A).2.1 h ∧ (tlZ A).2.1 h < 60 := by
  have := hB.2.2.1
  exact tlF_in A (A 2).toNat 0 _ (Int.le_refl _) (by omega) ⟨Int.le_refl _, Int.le_refl _⟩ (fun h h0 (h1 : h < 0) => by omega)
theorem sp_X12_apartFrom (s b : Int) (H : PH) (hB : MB (H 591)) (hs : 0 ≤ s ∧ s < 12 + (tlZ (H 591)).1) (hs2 : s < 72) (hb : 0 ≤ b ∧ b < 12) (hF : ∀ h, 0 ≤ h → h < (tlZ (H 591)).1 → H 601 h = (tlZ (H 591)).2.1 h) : SPEC 213 [(2, 590), (0, s), (0, b)] H (fun r H' => r = some (0, apfA (H 591) s b) ∧ SCm [599] [17, 18, 19] H H') := by
  intro E n res h
  unfold apfA
  by_cases c : s < 12
  · have h := call_runP 4 vm_X12_apartFrom h
    have h := xw_top (hd := []) 4 xD6_ok xc_X12_apartFrom xa_X12_apartFrom (t := 0) rfl h
    simp (maxDischargeDepth := 12) -implicitDefEqProofs [vb_X12_apartFrom_0, vb_X12_apartFrom_13, xI_0, xI_1, xI_3, xI_7, xI_8, xI_14, xI_15, xI_46, xI_49, xI_51, xI_60, xI_61, xI_62, xw_X12_apartFrom_0, xw_X12_apartFrom_13, zw_lit, xB_c, xB_s, xB_n, i1_c, j2_c, k1_c, jJ_e, xlg, xls, xla, xpd, ppush, zw_m1, zw_m2, zw_m3, gf_12_21, tg_12_21, gv_590_21, xD1, xD2, xD3, xD4, xD5, xD6, xb1_0] at h
    rcases h with ⟨c', h⟩ | ⟨_, h⟩
    · omega
    · obtain ⟨r, H2, ⟨rfl, sc⟩, h⟩ := xc_use h (sp_X12_billApart s b H hB ⟨hs.1, c⟩ hb)
      simp (maxDischargeDepth := 12) -implicitDefEqProofs [vb_X12_apartFrom_0, vb_X12_apartFrom_13, xI_0, xI_1, xI_3, xI_7, xI_8, xI_14, xI_15, xI_46, xI_49, xI_51, xI_60, xI_61, xI_62, xw_X12_apartFrom_0, xw_X12_apartFrom_13, zw_lit, xB_c, xB_s, xB_n, i1_c, j2_c, k1_c, jJ_e, xlg, xls, xla, xpd, ppush, zw_m1, zw_m2, zw_m3, gf_12_21, tg_12_21, gv_590_21, xD1, xD2, xD3, xD4, xD5, xD6, xb1_0] at h
      rw [if_pos c]
      exact ⟨_, H2, h, rfl, sc⟩
  · have e1 := hF (s - 12) (by omega) (by omega)
    obtain ⟨l0, l1⟩ := tlZ_in hB (s - 12) (by omega) (by omega)
    rw [if_neg c]
    generalize (tlZ (H 591)).2.1 (s - 12) = l at e1 l0 l1 ⊢
    have z0 : zw (s - 12) = s - 12 := zw_lit (by omega) (by omega)
    have z1 : zw (12 * l) = 12 * l := zw_lit (by omega) (by omega)
    have z2 : zw (404 + 12 * l) = 404 + 12 * l := zw_lit (by omega) (by omega)
    have z3 : zw (404 + 12 * l + 3) = 404 + 12 * l + 3 := zw_lit (by omega) (by omega)
    have z4 : zw (404 + 12 * l + 4) = 404 + 12 * l + 4 := zw_lit (by omega) (by omega)
    have z5 : zw (26 * b) = 26 * b := zw_lit (by omega) (by omega)
    have z6 : zw (92 + 26 * b) = 92 + 26 * b := zw_lit (by omega) (by omega)
    have z7 : zw (92 + 26 * b + 1) = 92 + 26 * b + 1 := zw_lit (by omega) (by omega)
    have h := call_runP 4 vm_X12_apartFrom h
    have h := xw_top (hd := []) 4 xD6_ok xc_X12_apartFrom xa_X12_apartFrom (t := 0) rfl h
    simp (maxDischargeDepth := 12) -implicitDefEqProofs [vb_X12_apartFrom_0, vb_X12_apartFrom_13, xI_0, xI_1, xI_3, xI_7, xI_8, xI_14, xI_15, xI_46, xI_49, xI_51, xI_60, xI_61, xI_62, xw_X12_apartFrom_0, xw_X12_apartFrom_13, zw_lit, xB_c, xB_s, xB_n, i1_c, j2_c, k1_c, jJ_e, xlg, xls, xla, xpd, ppush, zw_m1, zw_m2, zw_m3, gf_12_21, tg_12_21, gv_590_21, xD1, xD2, xD3, xD4, xD5, xD6, xb1_0, z0, e1, z1, z2, z3, z4, z5, z6, z7] at h
    rcases h with ⟨_, h⟩ | ⟨c', h⟩
    · obtain ⟨r, H2, ⟨rfl, hf⟩, h⟩ := xc_use h (sp_X12_apartOf _ _ _ _ H (by omega) (hB.2.2.2.2.2.1 l l0 l1) (hB.2.2.2.1 b hb.1 hb.2) hB.2.1)
      simp (maxDischargeDepth := 12) -implicitDefEqProofs [vb_X12_apartFrom_0, vb_X12_apartFrom_13, xI_0, xI_1, xI_3, xI_7, xI_8, xI_14, xI_15, xI_46, xI_49, xI_51, xI_60, xI_61, xI_62, xw_X12_apartFrom_0, xw_X12_apartFrom_13, zw_lit, xB_c, xB_s, xB_n, i1_c, j2_c, k1_c, jJ_e, xlg, xls, xla, xpd, ppush, zw_m1, zw_m2, zw_m3, gf_12_21, tg_12_21, gv_590_21, xD1, xD2, xD3, xD4, xD5, xD6, xb1_0] at h
      exact ⟨_, H2, h, rfl, fun c a _ => hf c (fun e => a (by rw [e]; decide)), fun i _ => congrFun (hf 590 (by decide)) i⟩
    · omega
set_option maxRecDepth 100000 in
theorem lp_ls1 (A : Int → Int) (hB : MB A) {E : xE} {res : xR} : ∀ (n : Nat) (s u v : Int) (H : PH), 0 ≤ s → s ≤ 72 → H 591 = A → H 590 26 = (tlZ A).1 → (0 ≤ (tlZ A).1 ∧ (tlZ A).1 ≤ 60) → (∀ x, 0 ≤ x → x < 12 + (tlZ A).1 → H 605 x = agdA A x) → (∀ x, 0 ≤ x → x < s → H 606 x = offA A x) → RUN E res n kd_X12_layShort (zget kd_X12_layShort 16) 16 [590, s, u, v] [] H → ∃ H' : PH, (∀ x, 0 ≤ x → x < 72 → H' 606 x = offA A x) ∧ SCm [606] [] H H' ∧ xJ E res n kd_X12_layShort 91 [590, 0, u, v] [] H' := by
  obtain ⟨k0, k1, k2, k3, k4, k5, k6⟩ := id hB
  intro n
  induction n using Nat.strongRecOn with
  | _ n ih =>
    intro s u v H hs0 hs1 hA hC ht hG hR h
    have z1 : zw (s + 1) = s + 1 := zw_lit (by omega) (by omega)
    have z2 : zw (A 0 - 1) = A 0 - 1 := zw_lit (by omega) (by omega)
    have z3 : zw (12 + (tlZ A).1) = 12 + (tlZ A).1 := zw_lit (by omega) (by omega)
    by_cases q : 72 ≤ s
    · have h := xw_top (hd := [16, 91]) 17 xD6_ok xc_X12_layShort xa_X12_layShort (t := 16) rfl h
      simp (maxDischargeDepth := 12) -implicitDefEqProofs [vb_X12_layShort_0, vb_X12_layShort_16, vb_X12_layShort_60, vb_X12_layShort_64, vb_X12_layShort_81, vb_X12_layShort_82, vb_X12_layShort_89, vb_X12_layShort_91, vb_X12_layShort_129, vb_X12_layShort_130, vb_X12_layShort_137, vb_X12_layShort_139, vb_X12_layShort_195, vb_X12_layShort_197, vb_X12_layShort_204, xI_0, xI_1, xI_3, xI_6, xI_7, xI_8, xI_9, xI_15, xI_17, xI_18, xI_36, xI_37, xI_42, xI_46, xI_49, xI_50, xI_51, xI_52, xI_60, xI_61, xI_65, xw_X12_layShort_0, xw_X12_layShort_16, xw_X12_layShort_60, xw_X12_layShort_64, xw_X12_layShort_81, xw_X12_layShort_82, xw_X12_layShort_89, xw_X12_layShort_91, xw_X12_layShort_129, xw_X12_layShort_130, xw_X12_layShort_137, xw_X12_layShort_139, xw_X12_layShort_195, xw_X12_layShort_197, xw_X12_layShort_204, zw_lit, xB_c, xB_s, xB_n, i1_c, j2_c, k1_c, jJ_e, xlg, xls, xla, xpd, ppush, zw_m1, zw_m2, zw_m3, gf_12_25, gf_12_27, gf_12_28, gf_12_29, gf_12_30, pf_12_31, pf_12_32, tg_12_25, tg_12_27, tg_12_28, tg_12_29, tg_12_30, tg_12_31, tg_12_32, gv_590_25, gv_590_27, gv_590_28, gv_590_29, gv_590_30, xD1, xD2, xD3, xD4, xD5, xD6, xb1_0, hA, hB, hC, z1, z2, z3] at h
      repeat' (first | (refine Or.elim h ?_ ?_ <;> clear h <;> intro h) | (refine And.elim ?_ h; clear h; intro _ h))
      all_goals first
        | (exfalso; omega)
        | exact ⟨H, fun x x0 x1 => hR x x0 (by omega), SCm_refl, h⟩
    · have nxt : ∀ (w : Int), w = offA A s → xJ E res n kd_X12_layShort 16 [590, s + 1, u, v] [] (pup H 606 s w) → ∃ H' : PH, (∀ x, 0 ≤ x → x < 72 → H' 606 x = offA A x) ∧ SCm [606] [] H H' ∧ xJ E res n kd_X12_layShort 91 [590, 0, u, v] [] H' := by
        rintro w hw ⟨m, hm, g⟩
        obtain ⟨H', g1, g2, g3⟩ := ih m hm (s + 1) u v _ (by omega) (by omega) ((xp_ne (by decide)).trans hA) ((congrFun (xp_ne (by decide)) _).trans hC) ht (fun x x0 x1 => by rw [xp_ne (by decide)]; exact hG x x0 x1) (fun x x0 x1 => by
          rw [xp_at]
          split
          · rename_i e
            rw [e, hw]
          · exact hR x x0 (by omega)) g
        exact ⟨H', g1, SCm_trans (SCm_cell (by decide) (by decide)) g2, xJ_up g3 (by omega)⟩
      by_cases q1 : s < 12
      · have h := xw_top (hd := [16, 91]) 17 xD6_ok xc_X12_layShort xa_X12_layShort (t := 16) rfl h
        simp (maxDischargeDepth := 12) -implicitDefEqProofs [vb_X12_layShort_0, vb_X12_layShort_16, vb_X12_layShort_60, vb_X12_layShort_64, vb_X12_layShort_81, vb_X12_layShort_82, vb_X12_layShort_89, vb_X12_layShort_91, vb_X12_layShort_129, vb_X12_layShort_130, vb_X12_layShort_137, vb_X12_layShort_139, vb_X12_layShort_195, vb_X12_layShort_197, vb_X12_layShort_204, xI_0, xI_1, xI_3, xI_6, xI_7, xI_8, xI_9, xI_15, xI_17, xI_18, xI_36, xI_37, xI_42, xI_46, xI_49, xI_50, xI_51, xI_52, xI_60, xI_61, xI_65, xw_X12_layShort_0, xw_X12_layShort_16, xw_X12_layShort_60, xw_X12_layShort_64, xw_X12_layShort_81, xw_X12_layShort_82, xw_X12_layShort_89, xw_X12_layShort_91, xw_X12_layShort_129, xw_X12_layShort_130, xw_X12_layShort_137, xw_X12_layShort_139, xw_X12_layShort_195, xw_X12_layShort_197, xw_X12_layShort_204, zw_lit, xB_c, xB_s, xB_n, i1_c, j2_c, k1_c, jJ_e, xlg, xls, xla, xpd, ppush, zw_m1, zw_m2, zw_m3, gf_12_25, gf_12_27, gf_12_28, gf_12_29, gf_12_30, pf_12_31, pf_12_32, tg_12_25, tg_12_27, tg_12_28, tg_12_29, tg_12_30, tg_12_31, tg_12_32, gv_590_25, gv_590_27, gv_590_28, gv_590_29, gv_590_30, xD1, xD2, xD3, xD4, xD5, xD6, xb1_0, hA, hB, hC, z1, z2, z3, q1] at h
        repeat' (first | (refine Or.elim h ?_ ?_ <;> clear h <;> intro h) | (refine And.elim ?_ h; clear h; intro _ h))
        all_goals first
          | (exfalso; omega)
          | (rw [hG s hs0 (by omega)] at h; refine nxt _ ?_ (h (by omega) (by omega)); unfold offA; omega)
          | (rw [hG s hs0 (by omega)] at h; refine nxt _ ?_ (h hs0); unfold offA; omega)
          | (rw [hG s hs0 (by omega)] at h; refine nxt _ ?_ h; unfold offA; omega)
          | (refine nxt _ ?_ h; unfold offA; omega)
      · have h := xw_top (hd := [16, 91]) 17 xD6_ok xc_X12_layShort xa_X12_layShort (t := 16) rfl h
        simp (maxDischargeDepth := 12) -implicitDefEqProofs [vb_X12_layShort_0, vb_X12_layShort_16, vb_X12_layShort_60, vb_X12_layShort_64, vb_X12_layShort_81, vb_X12_layShort_82, vb_X12_layShort_89, vb_X12_layShort_91, vb_X12_layShort_129, vb_X12_layShort_130, vb_X12_layShort_137, vb_X12_layShort_139, vb_X12_layShort_195, vb_X12_layShort_197, vb_X12_layShort_204, xI_0, xI_1, xI_3, xI_6, xI_7, xI_8, xI_9, xI_15, xI_17, xI_18, xI_36, xI_37, xI_42, xI_46, xI_49, xI_50, xI_51, xI_52, xI_60, xI_61, xI_65, xw_X12_layShort_0, xw_X12_layShort_16, xw_X12_layShort_60, xw_X12_layShort_64, xw_X12_layShort_81, xw_X12_layShort_82, xw_X12_layShort_89, xw_X12_layShort_91, xw_X12_layShort_129, xw_X12_layShort_130, xw_X12_layShort_137, xw_X12_layShort_139, xw_X12_layShort_195, xw_X12_layShort_197, xw_X12_layShort_204, zw_lit, xB_c, xB_s, xB_n, i1_c, j2_c, k1_c, jJ_e, xlg, xls, xla, xpd, ppush, zw_m1, zw_m2, zw_m3, gf_12_25, gf_12_27, gf_12_28, gf_12_29, gf_12_30, pf_12_31, pf_12_32, tg_12_25, tg_12_27, tg_12_28, tg_12_29, tg_12_30, tg_12_31, tg_12_32, gv_590_25, gv_590_27, gv_590_28, gv_590_29, gv_590_30, xD1, xD2, xD3, xD4, xD5, xD6, xb1_0, hA, hB, hC, z1, z2, z3, q1] at h
        repeat' (first | (refine Or.elim h ?_ ?_ <;> clear h <;> intro h) | (refine And.elim ?_ h; clear h; intro _ h))
        all_goals first
          | (exfalso; omega)
          | (rw [hG s hs0 (by omega)] at h; refine nxt _ ?_ (h (by omega) (by omega)); unfold offA; omega)
          | (rw [hG s hs0 (by omega)] at h; refine nxt _ ?_ (h hs0); unfold offA; omega)
          | (rw [hG s hs0 (by omega)] at h; refine nxt _ ?_ h; unfold offA; omega)
          | (refine nxt _ ?_ h; unfold offA; omega)
set_option maxRecDepth 100000 in
theorem lp_ls2 (A : Int → Int) (hB : MB A) {E : xE} {res : xR} : ∀ (n : Nat) (s u v : Int) (H : PH), 0 ≤ s → s ≤ 12 → H 591 = A → (0 ≤ (tlZ A).1 ∧ (tlZ A).1 ≤ 60) → (∀ x, 0 ≤ x → x < 12 + (tlZ A).1 → H 605 x = agdA A x) → (∀ x, 0 ≤ x → x < s → H 607 x = wntA A x) → RUN E res n kd_X12_layShort (zget kd_X12_layShort 91) 91 [590, s, u, v] [] H → ∃ H' : PH, (∀ x, 0 ≤ x → x < 12 → H' 607 x = wntA A x) ∧ SCm [607] [] H H' ∧ xJ E res n kd_X12_layShort 139 [590, 0, u, v] [] H' := by
  obtain ⟨k0, k1, k2, k3, k4, k5, k6⟩ := id hB
  intro n
  induction n using Nat.strongRecOn with
  | _ n ih =>
    intro s u v H hs0 hs1 hA ht hG hR h
    have z1 : zw (s + 1) = s + 1 := zw_lit (by omega) (by omega)
    have z2 : zw (A 0 - 1) = A 0 - 1 := zw_lit (by omega) (by omega)
    by_cases q : 12 ≤ s
    · have h := xw_top (hd := [91, 139]) 17 xD6_ok xc_X12_layShort xa_X12_layShort (t := 91) rfl h
      simp (maxDischargeDepth := 12) -implicitDefEqProofs [vb_X12_layShort_0, vb_X12_layShort_16, vb_X12_layShort_60, vb_X12_layShort_64, vb_X12_layShort_81, vb_X12_layShort_82, vb_X12_layShort_89, vb_X12_layShort_91, vb_X12_layShort_129, vb_X12_layShort_130, vb_X12_layShort_137, vb_X12_layShort_139, vb_X12_layShort_195, vb_X12_layShort_197, vb_X12_layShort_204, xI_0, xI_1, xI_3, xI_6, xI_7, xI_8, xI_9, xI_15, xI_17, xI_18, xI_36, xI_37, xI_42, xI_46, xI_49, xI_50, xI_51, xI_52, xI_60, xI_61, xI_65, xw_X12_layShort_0, xw_X12_layShort_16, xw_X12_layShort_60, xw_X12_layShort_64, xw_X12_layShort_81, xw_X12_layShort_82, xw_X12_layShort_89, xw_X12_layShort_91, xw_X12_layShort_129, xw_X12_layShort_130, xw_X12_layShort_137, xw_X12_layShort_139, xw_X12_layShort_195, xw_X12_layShort_197, xw_X12_layShort_204, zw_lit, xB_c, xB_s, xB_n, i1_c, j2_c, k1_c, jJ_e, xlg, xls, xla, xpd, ppush, zw_m1, zw_m2, zw_m3, gf_12_25, gf_12_27, gf_12_28, gf_12_29, gf_12_30, pf_12_31, pf_12_32, tg_12_25, tg_12_27, tg_12_28, tg_12_29, tg_12_30, tg_12_31, tg_12_32, gv_590_25, gv_590_27, gv_590_28, gv_590_29, gv_590_30, xD1, xD2, xD3, xD4, xD5, xD6, xb1_0, hA, hB, z1, z2] at h
      repeat' (first | (refine Or.elim h ?_ ?_ <;> clear h <;> intro h) | (refine And.elim ?_ h; clear h; intro _ h))
      all_goals first
        | (exfalso; omega)
        | exact ⟨H, fun x x0 x1 => hR x x0 (by omega), SCm_refl, h⟩
    · have nxt : ∀ (w : Int), w = wntA A s → xJ E res n kd_X12_layShort 91 [590, s + 1, u, v] [] (pup H 607 s w) → ∃ H' : PH, (∀ x, 0 ≤ x → x < 12 → H' 607 x = wntA A x) ∧ SCm [607] [] H H' ∧ xJ E res n kd_X12_layShort 139 [590, 0, u, v] [] H' := by
        rintro w hw ⟨m, hm, g⟩
        obtain ⟨H', g1, g2, g3⟩ := ih m hm (s + 1) u v _ (by omega) (by omega) ((xp_ne (by decide)).trans hA) ht (fun x x0 x1 => by rw [xp_ne (by decide)]; exact hG x x0 x1) (fun x x0 x1 => by
          rw [xp_at]
          split
          · rename_i e
            rw [e, hw]
          · exact hR x x0 (by omega)) g
        exact ⟨H', g1, SCm_trans (SCm_cell (by decide) (by decide)) g2, xJ_up g3 (by omega)⟩
      have e5 : H 605 s = agdA A s := hG s hs0 (by omega)
      have h := xw_top (hd := [91, 139]) 17 xD6_ok xc_X12_layShort xa_X12_layShort (t := 91) rfl h
      simp (maxDischargeDepth := 12) -implicitDefEqProofs [vb_X12_layShort_0, vb_X12_layShort_16, vb_X12_layShort_60, vb_X12_layShort_64, vb_X12_layShort_81, vb_X12_layShort_82, vb_X12_layShort_89, vb_X12_layShort_91, vb_X12_layShort_129, vb_X12_layShort_130, vb_X12_layShort_137, vb_X12_layShort_139, vb_X12_layShort_195, vb_X12_layShort_197, vb_X12_layShort_204, xI_0, xI_1, xI_3, xI_6, xI_7, xI_8, xI_9, xI_15, xI_17, xI_18, xI_36, xI_37, xI_42, xI_46, xI_49, xI_50, xI_51, xI_52, xI_60, xI_61, xI_65, xw_X12_layShort_0, xw_X12_layShort_16, xw_X12_layShort_60, xw_X12_layShort_64, xw_X12_layShort_81, xw_X12_layShort_82, xw_X12_layShort_89, xw_X12_layShort_91, xw_X12_layShort_129, xw_X12_layShort_130, xw_X12_layShort_137, xw_X12_layShort_139, xw_X12_layShort_195, xw_X12_layShort_197, xw_X12_layShort_204, zw_lit, xB_c, xB_s, xB_n, i1_c, j2_c, k1_c, jJ_e, xlg, xls, xla, xpd, ppush, zw_m1, zw_m2, zw_m3, gf_12_25, gf_12_27, gf_12_28, gf_12_29, gf_12_30, pf_12_31, pf_12_32, tg_12_25, tg_12_27, tg_12_28, tg_12_29, tg_12_30, tg_12_31, tg_12_32, gv_590_25, gv_590_27, gv_590_28, gv_590_29, gv_590_30, xD1, xD2, xD3, xD4, xD5, xD6, xb1_0, hA, hB, z1, z2, e5] at h
      repeat' (first | (refine Or.elim h ?_ ?_ <;> clear h <;> intro h) | (refine And.elim ?_ h; clear h; intro _ h))
      all_goals first
        | (exfalso; omega)
        | (refine nxt _ ?_ (h (by omega) (by omega)); unfold wntA; omega)
        | (refine nxt _ ?_ h; unfold wntA; omega)
def farK (A : Int → Int) (k : Int) : Int := farA A (k / 12) (k % 12)
set_option maxRecDepth 100000 in
theorem lp_ls3 (A : Int → Int) (hB : MB A) {E : xE} {res : xR} : ∀ (n : Nat) (k u v : Int) (H : PH), 0 ≤ k → k ≤ 864 → H 591 = A → (0 ≤ (tlZ A).1 ∧ (tlZ A).1 ≤ 60) → (∀ h, 0 ≤ h → h < (tlZ A).1 → H 601 h = (tlZ A).2.1 h) → (∀ x, 0 ≤ x → x < 72 → H 606 x = offA A x) → (∀ x, 0 ≤ x → x < 12 → H 607 x = wntA A x) → (∀ x, 0 ≤ x → x < k → H 608 x = 0 ∧ H 609 x = farK A x) → RUN E res n kd_X12_layShort (zget kd_X12_layShort 139) 139 [590, k, u, v] [] H → ∃ H' : PH, (∀ x, 0 ≤ x → x < 864 → H' 608 x = 0 ∧ H' 609 x = farK A x) ∧ SCm [599, 608, 609] [17, 18, 19] H H' ∧ REPR E res none H' := by
  intro n
  induction n using Nat.strongRecOn with
  | _ n ih =>
    intro k u v H hk0 hk1 hA ht hF hO hW hR h
    have z1 : zw (k + 1) = k + 1 := zw_lit (by omega) (by omega)
    have d1 : q2 (fun x1 x2 => x1 / x2) k 12 = k / 12 := q2_div hk0 (by omega) (by omega) (by omega)
    have d2 : q2 (fun x y => x - x / y * y) k 12 = k % 12 := q2_rem hk0 (by omega) (by omega) (by omega)
    by_cases q : 864 ≤ k
    · have h := xw_top (hd := [139]) 17 xD6_ok xc_X12_layShort xa_X12_layShort (t := 139) rfl h
      simp (maxDischargeDepth := 12) -implicitDefEqProofs [vb_X12_layShort_0, vb_X12_layShort_16, vb_X12_layShort_60, vb_X12_layShort_64, vb_X12_layShort_81, vb_X12_layShort_82, vb_X12_layShort_89, vb_X12_layShort_91, vb_X12_layShort_129, vb_X12_layShort_130, vb_X12_layShort_137, vb_X12_layShort_139, vb_X12_layShort_195, vb_X12_layShort_197, vb_X12_layShort_204, xI_0, xI_1, xI_3, xI_6, xI_7, xI_8, xI_9, xI_15, xI_17, xI_18, xI_36, xI_37, xI_42, xI_46, xI_49, xI_50, xI_51, xI_52, xI_60, xI_61, xI_65, xw_X12_layShort_0, xw_X12_layShort_16, xw_X12_layShort_60, xw_X12_layShort_64, xw_X12_layShort_81, xw_X12_layShort_82, xw_X12_layShort_89, xw_X12_layShort_91, xw_X12_layShort_129, xw_X12_layShort_130, xw_X12_layShort_137, xw_X12_layShort_139, xw_X12_layShort_195, xw_X12_layShort_197, xw_X12_layShort_204, zw_lit, xB_c, xB_s, xB_n, i1_c, j2_c, k1_c, jJ_e, xlg, xls, xla, xpd, ppush, zw_m1, zw_m2, zw_m3, gf_12_25, gf_12_27, gf_12_28, gf_12_29, gf_12_30, pf_12_31, pf_12_32, tg_12_25, tg_12_27, tg_12_28, tg_12_29, tg_12_30, tg_12_31, tg_12_32, gv_590_25, gv_590_27, gv_590_28, gv_590_29, gv_590_30, xD1, xD2, xD3, xD4, xD5, xD6, xb1_0, hA, z1, d1, d2] at h
      repeat' (first | (refine Or.elim h ?_ ?_ <;> clear h <;> intro h) | (refine And.elim ?_ h; clear h; intro _ h))
      all_goals first
        | (exfalso; omega)
        | exact ⟨H, fun x x0 x1 => hR x x0 (by omega), SCm_refl, h⟩
    · have nxt : ∀ (w : Int) (H3 : PH), w = farK A k → SCm [599, 608, 609] [17, 18, 19] H H3 → H3 608 = (pup H 608 k 0) 608 → H3 609 = H 609 → xJ E res n kd_X12_layShort 139 [590, k + 1, k / 12, k % 12] [] (pup H3 609 k w) → ∃ H' : PH, (∀ x, 0 ≤ x → x < 864 → H' 608 x = 0 ∧ H' 609 x = farK A x) ∧ SCm [599, 608, 609] [17, 18, 19] H H' ∧ REPR E res none H' := by
        rintro w H3 hw sc a1 a2 ⟨m, hm, g⟩
        have e : ∀ c, ¬ c ∈ [599, 608, 609] → ¬ c = 590 → H3 c = H c := sc.1
        obtain ⟨H', g1, g2, g3⟩ := ih m hm (k + 1) _ _ _ (by omega) (by omega) (by rw [xp_ne (by decide), e 591 (by decide) (by decide)]; exact hA) ht (fun x x0 x1 => by rw [xp_ne (by decide), e 601 (by decide) (by decide)]; exact hF x x0 x1) (fun x x0 x1 => by rw [xp_ne (by decide), e 606 (by decide) (by decide)]; exact hO x x0 x1) (fun x x0 x1 => by rw [xp_ne (by decide), e 607 (by decide) (by decide)]; exact hW x x0 x1) (fun x x0 x1 => by
          rw [xp_ne (by decide), a1, xp_at, xp_at, a2]
          by_cases e : x = k
          · rw [if_pos e, if_pos e, e, hw]
            exact ⟨rfl, rfl⟩
          · rw [if_neg e, if_neg e]
            exact hR x x0 (by omega)) g
        exact ⟨H', g1, SCm_trans (SCm_trans sc (SCm_cell (by decide) (by decide))) g2, g3⟩
      have e6 : H 606 (k / 12) = offA A (k / 12) := hO _ (by omega) (by omega)
      have e7 : H 607 (k % 12) = wntA A (k % 12) := hW _ (by omega) (by omega)
      have sc0 : SCm [599, 608, 609] [17, 18, 19] H (pup H 608 k 0) := SCm_cell (by decide) (by decide)
      have h := xw_top (hd := [139]) 17 xD6_ok xc_X12_layShort xa_X12_layShort (t := 139) rfl h
      simp (maxDischargeDepth := 12) -implicitDefEqProofs [vb_X12_layShort_0, vb_X12_layShort_16, vb_X12_layShort_60, vb_X12_layShort_64, vb_X12_layShort_81, vb_X12_layShort_82, vb_X12_layShort_89, vb_X12_layShort_91, vb_X12_layShort_129, vb_X12_layShort_130, vb_X12_layShort_137, vb_X12_layShort_139, vb_X12_layShort_195, vb_X12_layShort_197, vb_X12_layShort_204, xI_0, xI_1, xI_3, xI_6, xI_7, xI_8, xI_9, xI_15, xI_17, xI_18, xI_36, xI_37, xI_42, xI_46, xI_49, xI_50, xI_51, xI_52, xI_60, xI_61, xI_65, xw_X12_layShort_0, xw_X12_layShort_16, xw_X12_layShort_60, xw_X12_layShort_64, xw_X12_layShort_81, xw_X12_layShort_82, xw_X12_layShort_89, xw_X12_layShort_91, xw_X12_layShort_129, xw_X12_layShort_130, xw_X12_layShort_137, xw_X12_layShort_139, xw_X12_layShort_195, xw_X12_layShort_197, xw_X12_layShort_204, zw_lit, xB_c, xB_s, xB_n, i1_c, j2_c, k1_c, jJ_e, xlg, xls, xla, xpd, ppush, zw_m1, zw_m2, zw_m3, gf_12_25, gf_12_27, gf_12_28, gf_12_29, gf_12_30, pf_12_31, pf_12_32, tg_12_25, tg_12_27, tg_12_28, tg_12_29, tg_12_30, tg_12_31, tg_12_32, gv_590_25, gv_590_27, gv_590_28, gv_590_29, gv_590_30, xD1, xD2, xD3, xD4, xD5, xD6, xb1_0, hA, z1, d1, d2, e6, e7, xp_ne] at h
      by_cases c : 0 < offA A (k / 12) ∧ 0 < wntA A (k % 12)
      · have h := (h.resolve_left (by omega)).2
        rcases h with ⟨c', h⟩ | ⟨_, h⟩
        · omega
        · rcases h with ⟨c', h⟩ | ⟨_, h⟩
          · omega
          · have hs : k / 12 < 12 + (tlZ A).1 := by
              have := c.1
              unfold offA at this
              split at this
              · omega
              · split at this
                · assumption
                · omega
            obtain ⟨r, H2, ⟨rfl, sc⟩, h⟩ := xc_use h (sp_X12_apartFrom (k / 12) (k % 12) (pup H 608 k 0) (by rw [xp_ne (by decide), hA]; exact hB) (by rw [xp_ne (by decide), hA]; omega) (by omega) (by omega) (by rw [xp_ne (by decide), hA, xp_ne (by decide)]; exact hF))
            rw [xp_ne (by decide), hA] at h
            simp (maxDischargeDepth := 12) -implicitDefEqProofs [vb_X12_layShort_0, vb_X12_layShort_16, vb_X12_layShort_60, vb_X12_layShort_64, vb_X12_layShort_81, vb_X12_layShort_82, vb_X12_layShort_89, vb_X12_layShort_91, vb_X12_layShort_129, vb_X12_layShort_130, vb_X12_layShort_137, vb_X12_layShort_139, vb_X12_layShort_195, vb_X12_layShort_197, vb_X12_layShort_204, xI_0, xI_1, xI_3, xI_6, xI_7, xI_8, xI_9, xI_15, xI_17, xI_18, xI_36, xI_37, xI_42, xI_46, xI_49, xI_50, xI_51, xI_52, xI_60, xI_61, xI_65, xw_X12_layShort_0, xw_X12_layShort_16, xw_X12_layShort_60, xw_X12_layShort_64, xw_X12_layShort_81, xw_X12_layShort_82, xw_X12_layShort_89, xw_X12_layShort_91, xw_X12_layShort_129, xw_X12_layShort_130, xw_X12_layShort_137, xw_X12_layShort_139, xw_X12_layShort_195, xw_X12_layShort_197, xw_X12_layShort_204, zw_lit, xB_c, xB_s, xB_n, i1_c, j2_c, k1_c, jJ_e, xlg, xls, xla, xpd, ppush, zw_m1, zw_m2, zw_m3, gf_12_25, gf_12_27, gf_12_28, gf_12_29, gf_12_30, pf_12_31, pf_12_32, tg_12_25, tg_12_27, tg_12_28, tg_12_29, tg_12_30, tg_12_31, tg_12_32, gv_590_25, gv_590_27, gv_590_28, gv_590_29, gv_590_30, xD1, xD2, xD3, xD4, xD5, xD6, xb1_0, z1] at h
            refine nxt _ H2 ?_ (SCm_trans sc0 (SCm_sub sc (by decide) (by decide))) (sc.1 608 (by decide) (by decide)) ((sc.1 609 (by decide) (by decide)).trans (xp_ne (by decide))) h
            unfold farK farA
            rw [if_pos c]
      · repeat' (first | (refine Or.elim h ?_ ?_ <;> clear h <;> intro h) | (refine And.elim ?_ h; clear h; intro _ h))
        all_goals first
          | (exfalso; omega)
          | (refine nxt _ (pup H 608 k 0) ?_ sc0 rfl (xp_ne (by decide)) h; unfold farK farA; rw [if_neg c])
/-- the model's rows behind layShort -/
def LSh (A : Int → Int) (H : PH) : Prop := LRd A H ∧ (∀ x, 0 ≤ x → x < 72 → H 606 x = offA A x) ∧ (∀ x, 0 ≤ x → x < 12 → H 607 x = wntA A x) ∧ (∀ x, 0 ≤ x → x < 864 → H 608 x = 0 ∧ H 609 x = farK A x) ∧ H 590 31 = 0 ∧ H 590 32 = 0
theorem LRd_SC {A : Int → Int} {cs fs : List Int} {H H' : PH} (h : LRd A H) (sc : SCm cs fs H H') (hc : ∀ c ∈ [600, 601, 603, 604, 605], ¬ c ∈ cs) (hf : ¬ 26 ∈ fs) : LRd A H' := by
  obtain ⟨⟨t1, t2, t3, t4⟩, l2, l3, l4⟩ := h
  refine ⟨⟨(sc.2 26 hf).trans t1, fun x x0 x1 => ?_, fun x x0 x1 => ?_, fun x x0 x1 => ?_⟩, l2, fun x x0 x1 => ?_, fun x x0 x1 => ?_⟩
  · rw [sc.1 601 (hc 601 (by decide)) (by decide)]; exact t2 x x0 x1
  · rw [sc.1 603 (hc 603 (by decide)) (by decide)]; exact t3 x x0 x1
  · rw [sc.1 604 (hc 604 (by decide)) (by decide)]; exact t4 x x0 x1
  · rw [sc.1 600 (hc 600 (by decide)) (by decide)]; exact l3 x x0 x1
  · rw [sc.1 605 (hc 605 (by decide)) (by decide)]; exact l4 x x0 x1
set_option maxRecDepth 100000 in
theorem sp_X12_layShort (H : PH) (hB : MB (H 591)) (hL : ML (H 591)) : SPEC 215 [(2, 590)] H (fun r H' => r = none ∧ LSh (H 591) H' ∧ SCm [598, 599, 600, 601, 602, 603, 604, 605, 606, 607, 608, 609] [17, 18, 19, 26, 31, 32] H H') := by
  intro E n res h
  have h := call_runP 4 vm_X12_layShort h
  have h := xw_top (hd := [16, 91, 139]) 17 xD6_ok xc_X12_layShort xa_X12_layShort (t := 0) rfl h
  simp (maxDischargeDepth := 12) -implicitDefEqProofs [vb_X12_layShort_0, vb_X12_layShort_16, vb_X12_layShort_60, vb_X12_layShort_64, vb_X12_layShort_81, vb_X12_layShort_82, vb_X12_layShort_89, vb_X12_layShort_91, vb_X12_layShort_129, vb_X12_layShort_130, vb_X12_layShort_137, vb_X12_layShort_139, vb_X12_layShort_195, vb_X12_layShort_197, vb_X12_layShort_204, xI_0, xI_1, xI_3, xI_6, xI_7, xI_8, xI_9, xI_15, xI_17, xI_18, xI_36, xI_37, xI_42, xI_46, xI_49, xI_50, xI_51, xI_52, xI_60, xI_61, xI_65, xw_X12_layShort_0, xw_X12_layShort_16, xw_X12_layShort_60, xw_X12_layShort_64, xw_X12_layShort_81, xw_X12_layShort_82, xw_X12_layShort_89, xw_X12_layShort_91, xw_X12_layShort_129, xw_X12_layShort_130, xw_X12_layShort_137, xw_X12_layShort_139, xw_X12_layShort_195, xw_X12_layShort_197, xw_X12_layShort_204, zw_lit, xB_c, xB_s, xB_n, i1_c, j2_c, k1_c, jJ_e, xlg, xls, xla, xpd, ppush, zw_m1, zw_m2, zw_m3, gf_12_25, gf_12_27, gf_12_28, gf_12_29, gf_12_30, pf_12_31, pf_12_32, tg_12_25, tg_12_27, tg_12_28, tg_12_29, tg_12_30, tg_12_31, tg_12_32, gv_590_25, gv_590_27, gv_590_28, gv_590_29, gv_590_30, xD1, xD2, xD3, xD4, xD5, xD6, xb1_0] at h
  obtain ⟨r, H1, ⟨rfl, hl, sc⟩, h⟩ := xc_use h (sp_X12_layReads H hB hL)
  have hl0 := hl
  obtain ⟨⟨t1, t2, t3, t4⟩, l2, l3, l4⟩ := hl
  have eA : H1 591 = H 591 := sc.1 591 (by decide) (by decide)
  simp (maxDischargeDepth := 12) -implicitDefEqProofs [vb_X12_layShort_0, vb_X12_layShort_16, vb_X12_layShort_60, vb_X12_layShort_64, vb_X12_layShort_81, vb_X12_layShort_82, vb_X12_layShort_89, vb_X12_layShort_91, vb_X12_layShort_129, vb_X12_layShort_130, vb_X12_layShort_137, vb_X12_layShort_139, vb_X12_layShort_195, vb_X12_layShort_197, vb_X12_layShort_204, xI_0, xI_1, xI_3, xI_6, xI_7, xI_8, xI_9, xI_15, xI_17, xI_18, xI_36, xI_37, xI_42, xI_46, xI_49, xI_50, xI_51, xI_52, xI_60, xI_61, xI_65, xw_X12_layShort_0, xw_X12_layShort_16, xw_X12_layShort_60, xw_X12_layShort_64, xw_X12_layShort_81, xw_X12_layShort_82, xw_X12_layShort_89, xw_X12_layShort_91, xw_X12_layShort_129, xw_X12_layShort_130, xw_X12_layShort_137, xw_X12_layShort_139, xw_X12_layShort_195, xw_X12_layShort_197, xw_X12_layShort_204, zw_lit, xB_c, xB_s, xB_n, i1_c, j2_c, k1_c, jJ_e, xlg, xls, xla, xpd, ppush, zw_m1, zw_m2, zw_m3, gf_12_25, gf_12_27, gf_12_28, gf_12_29, gf_12_30, pf_12_31, pf_12_32, tg_12_25, tg_12_27, tg_12_28, tg_12_29, tg_12_30, tg_12_31, tg_12_32, gv_590_25, gv_590_27, gv_590_28, gv_590_29, gv_590_30, xD1, xD2, xD3, xD4, xD5, xD6, xb1_0] at h
  obtain ⟨m, hm, h⟩ := h
  have sc1 : SCm [] [31, 32] H1 (pup (pup H1 590 31 0) 590 32 0) := SCm_trans (SCm_fld (by decide)) (SCm_fld (by decide))
  obtain ⟨H2, g1, g2, m2, hm2, g3⟩ := lp_ls1 (H 591) hB m 0 0 0 _ (by omega) (by omega) ((sc1.1 591 (by decide) (by decide)).trans eA) ((sc1.2 26 (by decide)).trans t1) l2 (fun x x0 x1 => by rw [sc1.1 605 (by decide) (by decide)]; exact l4 x x0 x1) (fun x x0 x1 => by omega) h
  obtain ⟨H3, k1, k2, m3, hm3, k3⟩ := lp_ls2 (H 591) hB m2 0 0 0 H2 (by omega) (by omega) (by rw [g2.1 591 (by decide) (by decide), sc1.1 591 (by decide) (by decide)]; exact eA) l2 (fun x x0 x1 => by rw [g2.1 605 (by decide) (by decide), sc1.1 605 (by decide) (by decide)]; exact l4 x x0 x1) (fun x x0 x1 => by omega) g3
  obtain ⟨H4, j1, j2, j3⟩ := lp_ls3 (H 591) hB m3 0 0 0 H3 (by omega) (by omega) (by rw [k2.1 591 (by decide) (by decide), g2.1 591 (by decide) (by decide), sc1.1 591 (by decide) (by decide)]; exact eA) l2 (fun x x0 x1 => by rw [k2.1 601 (by decide) (by decide), g2.1 601 (by decide) (by decide), sc1.1 601 (by decide) (by decide)]; exact t2 x x0 x1) (fun x x0 x1 => by rw [k2.1 606 (by decide) (by decide)]; exact g1 x x0 x1) k1 (fun x x0 x1 => by omega) k3
  have scA : SCm [599, 606, 607, 608, 609] [17, 18, 19, 31, 32] H1 H4 := SCm_trans (SCm_sub sc1 (by decide) (by decide)) (SCm_trans (SCm_sub g2 (by decide) (by decide)) (SCm_trans (SCm_sub k2 (by decide) (by decide)) (SCm_sub j2 (by decide) (by decide))))
  refine ⟨none, H4, j3, rfl, ⟨LRd_SC hl0 scA (by decide) (by decide), fun x x0 x1 => ?_, fun x x0 x1 => ?_, j1, ?_, ?_⟩, SCm_trans (SCm_sub sc (by decide) (by decide)) (SCm_sub scA (by decide) (by decide))⟩
  · rw [j2.1 606 (by decide) (by decide), k2.1 606 (by decide) (by decide)]
    exact g1 x x0 x1
  · rw [j2.1 607 (by decide) (by decide)]
    exact k1 x x0 x1
  · rw [j2.2 31 (by decide), k2.2 31 (by decide), g2.2 31 (by decide), xp_at, if_neg (by decide), xp_at, if_pos rfl]
  · rw [j2.2 32 (by decide), k2.2 32 (by decide), g2.2 32 (by decide), xp_at, if_pos rfl]
