theorem gf_12_31 : gfOK 12 31 = true := by decide +kernel
theorem gf_12_32 : gfOK 12 32 = true := by decide +kernel
def xm_X12_layMatched : List xbT := [(0, vb_X12_layMatched_0, some 6), (6, vb_X12_layMatched_6, some 18), (18, vb_X12_layMatched_18, some 38), (38, vb_X12_layMatched_38, some 115), (115, vb_X12_layMatched_115, some 121), (121, vb_X12_layMatched_121, some 127), (127, vb_X12_layMatched_127, none)]
theorem xc_X12_layMatched : xOK kd_X12_layMatched xm_X12_layMatched := ⟨ve_X12_layMatched_0, ve_X12_layMatched_6, ve_X12_layMatched_18, ve_X12_layMatched_38, ve_X12_layMatched_115, ve_X12_layMatched_121, ve_X12_layMatched_127, trivial⟩
theorem xa_X12_layMatched : xm_X12_layMatched.all (fun q => aOKb q.2.1 && !q.2.1.isEmpty) = true := by decide +kernel
theorem xw_X12_layMatched_0 {E : xE} {res : xR} {N : Nat} {hd : List Nat} {C : xCT} {k : Nat} {L : List Int} {st : List pv} {H : PH} : xW E res N kd_X12_layMatched xm_X12_layMatched hd C (k + 1) 0 L st H = xB (fun t L st H => if t ∈ hd then xJ E res N kd_X12_layMatched t L st H else xW E res N kd_X12_layMatched xm_X12_layMatched hd C k t L st H) (REPR E res) C (some 6) vb_X12_layMatched_0 0 L st H := Eq.trans rfl rfl
theorem xw_X12_layMatched_6 {E : xE} {res : xR} {N : Nat} {hd : List Nat} {C : xCT} {k : Nat} {L : List Int} {st : List pv} {H : PH} : xW E res N kd_X12_layMatched xm_X12_layMatched hd C (k + 1) 6 L st H = xB (fun t L st H => if t ∈ hd then xJ E res N kd_X12_layMatched t L st H else xW E res N kd_X12_layMatched xm_X12_layMatched hd C k t L st H) (REPR E res) C (some 18) vb_X12_layMatched_6 6 L st H := Eq.trans rfl rfl
theorem xw_X12_layMatched_18 {E : xE} {res : xR} {N : Nat} {hd : List Nat} {C : xCT} {k : Nat} {L : List Int} {st : List pv} {H : PH} : xW E res N kd_X12_layMatched xm_X12_layMatched hd C (k + 1) 18 L st H = xB (fun t L st H => if t ∈ hd then xJ E res N kd_X12_layMatched t L st H else xW E res N kd_X12_layMatched xm_X12_layMatched hd C k t L st H) (REPR E res) C (some 38) vb_X12_layMatched_18 18 L st H := Eq.trans rfl rfl
theorem xw_X12_layMatched_38 {E : xE} {res : xR} {N : Nat} {hd : List Nat} {C : xCT} {k : Nat} {L : List Int} {st : List pv} {H : PH} : xW E res N kd_X12_layMatched xm_X12_layMatched hd C (k + 1) 38 L st H = xB (fun t L st H => if t ∈ hd then xJ E res N kd_X12_layMatched t L st H else xW E res N kd_X12_layMatched xm_X12_layMatched hd C k t L st H) (REPR E res) C (some 115) vb_X12_layMatched_38 38 L st H := Eq.trans rfl rfl
theorem xw_X12_layMatched_115 {E : xE} {res : xR} {N : Nat} {hd : List Nat} {C : xCT} {k : Nat} {L : List Int} {st : List pv} {H : PH} : xW E res N kd_X12_layMatched xm_X12_layMatched hd C (k + 1) 115 L st H = xB (fun t L st H => if t ∈ hd then xJ E res N kd_X12_layMatched t L st H else xW E res N kd_X12_layMatched xm_X12_layMatched hd C k t L st H) (REPR E res) C (some 121) vb_X12_layMatched_115 115 L st H := Eq.trans rfl rfl
theorem xw_X12_layMatched_121 {E : xE} {res : xR} {N : Nat} {hd : List Nat} {C : xCT} {k : Nat} {L : List Int} {st : List pv} {H : PH} : xW E res N kd_X12_layMatched xm_X12_layMatched hd C (k + 1) 121 L st H = xB (fun t L st H => if t ∈ hd then xJ E res N kd_X12_layMatched t L st H else xW E res N kd_X12_layMatched xm_X12_layMatched hd C k t L st H) (REPR E res) C (some 127) vb_X12_layMatched_121 121 L st H := Eq.trans rfl rfl
theorem xw_X12_layMatched_127 {E : xE} {res : xR} {N : Nat} {hd : List Nat} {C : xCT} {k : Nat} {L : List Int} {st : List pv} {H : PH} : xW E res N kd_X12_layMatched xm_X12_layMatched hd C (k + 1) 127 L st H = xB (fun t L st H => if t ∈ hd then xJ E res N kd_X12_layMatched t L st H else xW E res N kd_X12_layMatched xm_X12_layMatched hd C k t L st H) (REPR E res) C (none) vb_X12_layMatched_127 127 L st H := Eq.trans rfl rfl
def xm_X12_matchedTo : List xbT := [(0, vb_X12_matchedTo_0, some 4), (4, vb_X12_matchedTo_4, some 30), (30, vb_X12_matchedTo_30, none)]
theorem xc_X12_matchedTo : xOK kd_X12_matchedTo xm_X12_matchedTo := ⟨ve_X12_matchedTo_0, ve_X12_matchedTo_4, ve_X12_matchedTo_30, trivial⟩
theorem xa_X12_matchedTo : xm_X12_matchedTo.all (fun q => aOKb q.2.1 && !q.2.1.isEmpty) = true := by decide +kernel
theorem xw_X12_matchedTo_0 {E : xE} {res : xR} {N : Nat} {hd : List Nat} {C : xCT} {k : Nat} {L : List Int} {st : List pv} {H : PH} : xW E res N kd_X12_matchedTo xm_X12_matchedTo hd C (k + 1) 0 L st H = xB (fun t L st H => if t ∈ hd then xJ E res N kd_X12_matchedTo t L st H else xW E res N kd_X12_matchedTo xm_X12_matchedTo hd C k t L st H) (REPR E res) C (some 4) vb_X12_matchedTo_0 0 L st H := Eq.trans rfl rfl
theorem xw_X12_matchedTo_4 {E : xE} {res : xR} {N : Nat} {hd : List Nat} {C : xCT} {k : Nat} {L : List Int} {st : List pv} {H : PH} : xW E res N kd_X12_matchedTo xm_X12_matchedTo hd C (k + 1) 4 L st H = xB (fun t L st H => if t ∈ hd then xJ E res N kd_X12_matchedTo t L st H else xW E res N kd_X12_matchedTo xm_X12_matchedTo hd C k t L st H) (REPR E res) C (some 30) vb_X12_matchedTo_4 4 L st H := Eq.trans rfl rfl
theorem xw_X12_matchedTo_30 {E : xE} {res : xR} {N : Nat} {hd : List Nat} {C : xCT} {k : Nat} {L : List Int} {st : List pv} {H : PH} : xW E res N kd_X12_matchedTo xm_X12_matchedTo hd C (k + 1) 30 L st H = xB (fun t L st H => if t ∈ hd then xJ E res N kd_X12_matchedTo t L st H else xW E res N kd_X12_matchedTo xm_X12_matchedTo hd C k t L st H) (REPR E res) C (none) vb_X12_matchedTo_30 30 L st H := Eq.trans rfl rfl
def xm_X12_shedOf : List xbT := [(0, vb_X12_shedOf_0, none)]
theorem xc_X12_shedOf : xOK kd_X12_shedOf xm_X12_shedOf := ⟨ve_X12_shedOf_0, trivial⟩
theorem xa_X12_shedOf : xm_X12_shedOf.all (fun q => aOKb q.2.1 && !q.2.1.isEmpty) = true := by decide +kernel
theorem xw_X12_shedOf_0 {E : xE} {res : xR} {N : Nat} {hd : List Nat} {C : xCT} {k : Nat} {L : List Int} {st : List pv} {H : PH} : xW E res N kd_X12_shedOf xm_X12_shedOf hd C (k + 1) 0 L st H = xB (fun t L st H => if t ∈ hd then xJ E res N kd_X12_shedOf t L st H else xW E res N kd_X12_shedOf xm_X12_shedOf hd C k t L st H) (REPR E res) C (none) vb_X12_shedOf_0 0 L st H := Eq.trans rfl rfl
/-! matched -/
abbrev mS : Type := (Int → Int) × (Int → Int) × (Int → Int) × Int × Int
def mtS (A : Int → Int) (d k : Int) (s : mS) : mS := if farK A k = d then (xup s.1 (k / 12) (zw (s.1 (k / 12) - min (s.1 (k / 12)) (s.2.1 (k % 12)))), xup s.2.1 (k % 12) (zw (s.2.1 (k % 12) - min (s.1 (k / 12)) (s.2.1 (k % 12)))), xup s.2.2.1 k (min (s.1 (k / 12)) (s.2.1 (k % 12))), zw (s.2.2.2.1 + min (s.1 (k / 12)) (s.2.1 (k % 12))), zw (s.2.2.2.2 + zw (min (s.1 (k / 12)) (s.2.1 (k % 12)) * d))) else s
def mtF (A : Int → Int) (d : Int) : Nat → Int → mS → mS
  | 0, _, s => s
  | n + 1, k, s => mtF A d n (k + 1) (mtS A d k s)
def mtG (A : Int → Int) : Nat → Int → mS → mS
  | 0, _, s => s
  | n + 1, d, s => mtG A n (d + 1) (mtF A d 864 0 s)
def mtZ (A : Int → Int) : mS := mtG A (A 4 + 1).toNat 0 (offA A, wntA A, fun _ => 0, 0, 0)
/-- what the rows of the model hold of this -/
def TX (A : Int → Int) (s : mS) (H : PH) : Prop := (∀ x, 0 ≤ x → x < 72 → H 606 x = s.1 x) ∧ (∀ x, 0 ≤ x → x < 12 → H 607 x = s.2.1 x) ∧ (∀ x, 0 ≤ x → x < 864 → H 608 x = s.2.2.1 x) ∧ H 590 31 = s.2.2.2.1 ∧ H 590 32 = s.2.2.2.2 ∧ (∀ x, 0 ≤ x → x < 864 → H 609 x = farK A x)
set_option maxRecDepth 100000 in
theorem lp_lm1 (A : Int → Int) (d : Int) (hd : 0 ≤ d ∧ d ≤ 24) {E : xE} {res : xR} : ∀ (n : Nat) (k v : Int) (s : mS) (H : PH), 0 ≤ k → k ≤ 864 → TX A s H → RUN E res n kd_X12_layMatched (zget kd_X12_layMatched 18) 18 [590, d, k, v] [] H → ∃ (H' : PH) (w : Int), TX A (mtF A d (864 - k).toNat k s) H' ∧ SCm [606, 607, 608] [31, 32] H H' ∧ xJ E res n kd_X12_layMatched 6 [590, d + 1, 864, w] [] H' := by
  intro n
  induction n using Nat.strongRecOn with
  | _ n ih =>
    intro k v s H hk0 hk1 hT h
    obtain ⟨t1, t2, t3, t4, t5, t6⟩ := id hT
    have z0 : zw (d + 1) = d + 1 := zw_lit (by omega) (by omega)
    have z1 : zw (k + 1) = k + 1 := zw_lit (by omega) (by omega)
    have d1 : q2 (fun x1 x2 => x1 / x2) k 12 = k / 12 := q2_div hk0 (by omega) (by omega) (by omega)
    have d2 : q2 (fun x y => x - x / y * y) k 12 = k % 12 := q2_rem hk0 (by omega) (by omega) (by omega)
    by_cases q : 864 ≤ k
    · have ek : k = 864 := by omega
      subst ek
      have h := xw_top (hd := [6, 18]) 9 xD6_ok xc_X12_layMatched xa_X12_layMatched (t := 18) rfl h
      simp (maxDischargeDepth := 12) -implicitDefEqProofs [vb_X12_layMatched_0, vb_X12_layMatched_6, vb_X12_layMatched_18, vb_X12_layMatched_38, vb_X12_layMatched_115, vb_X12_layMatched_121, vb_X12_layMatched_127, xI_0, xI_1, xI_3, xI_6, xI_7, xI_8, xI_9, xI_14, xI_15, xI_16, xI_17, xI_18, xI_33, xI_34, xI_36, xI_43, xI_46, xI_47, xI_49, xI_50, xI_51, xI_52, xI_60, xI_61, xI_65, xw_X12_layMatched_0, xw_X12_layMatched_6, xw_X12_layMatched_18, xw_X12_layMatched_38, xw_X12_layMatched_115, xw_X12_layMatched_121, xw_X12_layMatched_127, zw_lit, xB_c, xB_s, xB_n, i1_c, j2_c, k1_c, jJ_e, xlg, xls, xla, xpd, ppush, zw_m1, zw_m2, zw_m3, gf_12_0, gf_12_27, gf_12_28, gf_12_29, gf_12_30, gf_12_31, gf_12_32, pf_12_31, pf_12_32, tg_12_0, tg_12_27, tg_12_28, tg_12_29, tg_12_30, tg_12_31, tg_12_32, gv_590_0, gv_590_27, gv_590_28, gv_590_29, gv_590_30, gv_590_31, gv_590_32, xD1, xD2, xD3, xD4, xD5, xD6, xb1_0, z0] at h
      exact ⟨H, _, hT, SCm_refl, h⟩
    · have e6 : H 606 (k / 12) = s.1 (k / 12) := t1 _ (by omega) (by omega)
      have e7 : H 607 (k % 12) = s.2.1 (k % 12) := t2 _ (by omega) (by omega)
      have e9 : H 609 k = farK A k := t6 _ (by omega) (by omega)
      rw [show (864 - k).toNat = (864 - (k + 1)).toNat + 1 by omega]
      unfold mtF
      have h := xw_top (hd := [6, 18]) 9 xD6_ok xc_X12_layMatched xa_X12_layMatched (t := 18) rfl h
      simp (maxDischargeDepth := 12) -implicitDefEqProofs [vb_X12_layMatched_0, vb_X12_layMatched_6, vb_X12_layMatched_18, vb_X12_layMatched_38, vb_X12_layMatched_115, vb_X12_layMatched_121, vb_X12_layMatched_127, xI_0, xI_1, xI_3, xI_6, xI_7, xI_8, xI_9, xI_14, xI_15, xI_16, xI_17, xI_18, xI_33, xI_34, xI_36, xI_43, xI_46, xI_47, xI_49, xI_50, xI_51, xI_52, xI_60, xI_61, xI_65, xw_X12_layMatched_0, xw_X12_layMatched_6, xw_X12_layMatched_18, xw_X12_layMatched_38, xw_X12_layMatched_115, xw_X12_layMatched_121, xw_X12_layMatched_127, zw_lit, xB_c, xB_s, xB_n, i1_c, j2_c, k1_c, jJ_e, xlg, xls, xla, xpd, ppush, zw_m1, zw_m2, zw_m3, gf_12_0, gf_12_27, gf_12_28, gf_12_29, gf_12_30, gf_12_31, gf_12_32, pf_12_31, pf_12_32, tg_12_0, tg_12_27, tg_12_28, tg_12_29, tg_12_30, tg_12_31, tg_12_32, gv_590_0, gv_590_27, gv_590_28, gv_590_29, gv_590_30, gv_590_31, gv_590_32, xD1, xD2, xD3, xD4, xD5, xD6, xb1_0, z0, z1, d1, d2, e6, e7, e9, t4, t5, xp_ne, xp_at] at h
      have h := (h.resolve_left (by omega)).2
      rcases h with ⟨c, m, hm, h⟩ | ⟨c, m, hm, h⟩
      · have es : mtS A d k s = _ := if_pos c
        rw [es]
        refine Exists.elim (ih m hm (k + 1) _ _ _ (by omega) (by omega) ⟨fun x x0 x1 => ?_, fun x x0 x1 => ?_, fun x x0 x1 => ?_, ?_, ?_, fun x x0 x1 => ?_⟩ h) (fun H' ⟨w, g1, g2, g3⟩ => ⟨H', w, g1, SCm_trans (SCm_trans (SCm_cell (by decide) (by decide)) (SCm_trans (SCm_cell (by decide) (by decide)) (SCm_trans (SCm_cell (by decide) (by decide)) (SCm_trans (SCm_fld (by decide)) (SCm_fld (by decide)))))) g2, xJ_up g3 (by omega)⟩)
        · simp only [xup]
          by_cases e : x = k / 12
          · simp [xp_ne, xp_at, e]
          · simp [xp_ne, xp_at, e]
            exact t1 x x0 x1
        · simp only [xup]
          by_cases e : x = k % 12
          · simp [xp_ne, xp_at, e]
          · simp [xp_ne, xp_at, e]
            exact t2 x x0 x1
        · simp only [xup]
          by_cases e : x = k
          · simp [xp_ne, xp_at, e]
          · simp [xp_ne, xp_at, e]
            exact t3 x x0 x1
        · simp [xp_ne, xp_at]
        · simp [xp_ne, xp_at]
        · simp [xp_ne, xp_at]
          exact t6 x x0 x1
      · have es : mtS A d k s = s := if_neg c
        rw [es]
        obtain ⟨H', w, g1, g2, g3⟩ := ih m hm (k + 1) _ s H (by omega) (by omega) hT h
        exact ⟨H', w, g1, g2, xJ_up g3 (by omega)⟩
set_option maxRecDepth 100000 in
theorem lp_lm2 (A : Int → Int) (hf : 0 ≤ A 4 ∧ A 4 ≤ 24) {E : xE} {res : xR} : ∀ (n : Nat) (d u v : Int) (s : mS) (H : PH), 0 ≤ d → d ≤ A 4 + 1 → H 591 = A → TX A s H → RUN E res n kd_X12_layMatched (zget kd_X12_layMatched 6) 6 [590, d, u, v] [] H → ∃ H' : PH, TX A (mtG A (A 4 + 1 - d).toNat d s) H' ∧ SCm [606, 607, 608] [31, 32] H H' ∧ REPR E res none H' := by
  intro n
  induction n using Nat.strongRecOn with
  | _ n ih =>
    intro d u v s H hd0 hd1 hA hT h
    have h := xw_top (hd := [6, 18]) 9 xD6_ok xc_X12_layMatched xa_X12_layMatched (t := 6) rfl h
    simp (maxDischargeDepth := 12) -implicitDefEqProofs [vb_X12_layMatched_0, vb_X12_layMatched_6, vb_X12_layMatched_18, vb_X12_layMatched_38, vb_X12_layMatched_115, vb_X12_layMatched_121, vb_X12_layMatched_127, xI_0, xI_1, xI_3, xI_6, xI_7, xI_8, xI_9, xI_14, xI_15, xI_16, xI_17, xI_18, xI_33, xI_34, xI_36, xI_43, xI_46, xI_47, xI_49, xI_50, xI_51, xI_52, xI_60, xI_61, xI_65, xw_X12_layMatched_0, xw_X12_layMatched_6, xw_X12_layMatched_18, xw_X12_layMatched_38, xw_X12_layMatched_115, xw_X12_layMatched_121, xw_X12_layMatched_127, zw_lit, xB_c, xB_s, xB_n, i1_c, j2_c, k1_c, jJ_e, xlg, xls, xla, xpd, ppush, zw_m1, zw_m2, zw_m3, gf_12_0, gf_12_27, gf_12_28, gf_12_29, gf_12_30, gf_12_31, gf_12_32, pf_12_31, pf_12_32, tg_12_0, tg_12_27, tg_12_28, tg_12_29, tg_12_30, tg_12_31, tg_12_32, gv_590_0, gv_590_27, gv_590_28, gv_590_29, gv_590_30, gv_590_31, gv_590_32, xD1, xD2, xD3, xD4, xD5, xD6, xb1_0, hA] at h
    rcases h with ⟨c, h⟩ | ⟨c, m, hm, h⟩
    · rw [show (A 4 + 1 - d).toNat = 0 by omega]
      exact ⟨H, hT, SCm_refl, h⟩
    · obtain ⟨H1, w, g1, g2, m2, hm2, g3⟩ := lp_lm1 A d ⟨hd0, by omega⟩ m 0 v s H (by omega) (by omega) hT h
      obtain ⟨H', k1, k2, k3⟩ := ih m2 (by omega) (d + 1) _ _ _ H1 (by omega) (by omega) ((g2.1 591 (by decide) (by decide)).trans hA) g1 g3
      rw [show (A 4 + 1 - d).toNat = (A 4 + 1 - (d + 1)).toNat + 1 by omega]
      exact ⟨H', k1, SCm_trans g2 k2, k3⟩
/-- the model's rows behind layMatched -/
def LMt (A : Int → Int) (H : PH) : Prop := LRd A H ∧ TX A (mtZ A) H
theorem sp_X12_layMatched (H : PH) (hB : MB (H 591)) (hL : ML (H 591)) (hf : 0 ≤ H 591 4 ∧ H 591 4 ≤ 24) : SPEC 216 [(2, 590)] H (fun r H' => r = none ∧ LMt (H 591) H' ∧ SCm [598, 599, 600, 601, 602, 603, 604, 605, 606, 607, 608, 609] [17, 18, 19, 26, 31, 32] H H') := by
  intro E n res h
  have h := call_runP 4 vm_X12_layMatched h
  have h := xw_top (hd := [6, 18]) 9 xD6_ok xc_X12_layMatched xa_X12_layMatched (t := 0) rfl h
  simp (maxDischargeDepth := 12) -implicitDefEqProofs [vb_X12_layMatched_0, vb_X12_layMatched_6, vb_X12_layMatched_18, vb_X12_layMatched_38, vb_X12_layMatched_115, vb_X12_layMatched_121, vb_X12_layMatched_127, xI_0, xI_1, xI_3, xI_6, xI_7, xI_8, xI_9, xI_14, xI_15, xI_16, xI_17, xI_18, xI_33, xI_34, xI_36, xI_43, xI_46, xI_47, xI_49, xI_50, xI_51, xI_52, xI_60, xI_61, xI_65, xw_X12_layMatched_0, xw_X12_layMatched_6, xw_X12_layMatched_18, xw_X12_layMatched_38, xw_X12_layMatched_115, xw_X12_layMatched_121, xw_X12_layMatched_127, zw_lit, xB_c, xB_s, xB_n, i1_c, j2_c, k1_c, jJ_e, xlg, xls, xla, xpd, ppush, zw_m1, zw_m2, zw_m3, gf_12_0, gf_12_27, gf_12_28, gf_12_29, gf_12_30, gf_12_31, gf_12_32, pf_12_31, pf_12_32, tg_12_0, tg_12_27, tg_12_28, tg_12_29, tg_12_30, tg_12_31, tg_12_32, gv_590_0, gv_590_27, gv_590_28, gv_590_29, gv_590_30, gv_590_31, gv_590_32, xD1, xD2, xD3, xD4, xD5, xD6, xb1_0] at h
  obtain ⟨r, H1, ⟨rfl, ⟨l1, l2, l3, l4, l5, l6⟩, sc⟩, h⟩ := xc_use h (sp_X12_layShort H hB hL)
  have eA : H1 591 = H 591 := sc.1 591 (by decide) (by decide)
  simp (maxDischargeDepth := 12) -implicitDefEqProofs [vb_X12_layMatched_0, vb_X12_layMatched_6, vb_X12_layMatched_18, vb_X12_layMatched_38, vb_X12_layMatched_115, vb_X12_layMatched_121, vb_X12_layMatched_127, xI_0, xI_1, xI_3, xI_6, xI_7, xI_8, xI_9, xI_14, xI_15, xI_16, xI_17, xI_18, xI_33, xI_34, xI_36, xI_43, xI_46, xI_47, xI_49, xI_50, xI_51, xI_52, xI_60, xI_61, xI_65, xw_X12_layMatched_0, xw_X12_layMatched_6, xw_X12_layMatched_18, xw_X12_layMatched_38, xw_X12_layMatched_115, xw_X12_layMatched_121, xw_X12_layMatched_127, zw_lit, xB_c, xB_s, xB_n, i1_c, j2_c, k1_c, jJ_e, xlg, xls, xla, xpd, ppush, zw_m1, zw_m2, zw_m3, gf_12_0, gf_12_27, gf_12_28, gf_12_29, gf_12_30, gf_12_31, gf_12_32, pf_12_31, pf_12_32, tg_12_0, tg_12_27, tg_12_28, tg_12_29, tg_12_30, tg_12_31, tg_12_32, gv_590_0, gv_590_27, gv_590_28, gv_590_29, gv_590_30, gv_590_31, gv_590_32, xD1, xD2, xD3, xD4, xD5, xD6, xb1_0] at h
  obtain ⟨m, hm, h⟩ := h
  obtain ⟨H', g1, g2, g3⟩ := lp_lm2 (H 591) hf m 0 0 0 (offA (H 591), wntA (H 591), fun _ => 0, 0, 0) H1 (by omega) (by omega) eA ⟨l2, l3, fun x x0 x1 => (l4 x x0 x1).1, l5, l6, fun x x0 x1 => (l4 x x0 x1).2⟩ h
  rw [Int.sub_zero] at g1
  exact ⟨none, H', g3, rfl, ⟨LRd_SC l1 g2 (by decide) (by decide), g1⟩, SCm_trans sc (SCm_sub g2 (by decide) (by decide))⟩
/-- bales matched to a bill -/
def mtoF (B : Int → Int) (b : Int) : Nat → Int → Int → Int
  | 0, _, v => v
  | n + 1, s, v => mtoF B b n (s + 1) (zw (v + B (12 * s + b)))
def mtoA (A : Int → Int) (b : Int) : Int := mtoF (mtZ A).2.2.1 b 72 0 0
theorem lp_mto (b : Int) (B : Int → Int) (hb : 0 ≤ b ∧ b < 12) (H : PH) (hB : ∀ x, 0 ≤ x → x < 864 → H 608 x = B x) {E : xE} {res : xR} : ∀ (n : Nat) (s v : Int), 0 ≤ s → s ≤ 72 → RUN E res n kd_X12_matchedTo (zget kd_X12_matchedTo 4) 4 [590, b, v, s] [] H → REPR E res (some (0, mtoF B b (72 - s).toNat s v)) H := by
  intro n
  induction n using Nat.strongRecOn with
  | _ n ih =>
    intro s v hs0 hs1 h
    have z1 : zw (s + 1) = s + 1 := zw_lit (by omega) (by omega)
    have z2 : zw (12 * s) = 12 * s := zw_lit (by omega) (by omega)
    have z3 : zw (12 * s + b) = 12 * s + b := zw_lit (by omega) (by omega)
    have h := xw_top (hd := [4]) 5 xD6_ok xc_X12_matchedTo xa_X12_matchedTo (t := 4) rfl h
    simp (maxDischargeDepth := 12) -implicitDefEqProofs [vb_X12_matchedTo_0, vb_X12_matchedTo_4, vb_X12_matchedTo_30, xI_0, xI_1, xI_3, xI_6, xI_7, xI_8, xI_14, xI_16, xI_36, xI_46, xI_49, xI_51, xI_62, xw_X12_matchedTo_0, xw_X12_matchedTo_4, xw_X12_matchedTo_30, zw_lit, xB_c, xB_s, xB_n, i1_c, j2_c, k1_c, jJ_e, xlg, xls, xla, xpd, ppush, zw_m1, zw_m2, zw_m3, gf_12_29, tg_12_29, gv_590_29, xD1, xD2, xD3, xD4, xD5, xD6, xb1_0, z1, z2, z3] at h
    rcases h with ⟨c, h⟩ | ⟨c, m, hm, h⟩
    · rw [show (72 - s).toNat = 0 by omega]
      exact h
    · rw [hB _ (by omega) (by omega)] at h
      rw [show (72 - s).toNat = (72 - (s + 1)).toNat + 1 by omega]
      exact ih m hm (s + 1) _ (by omega) (by omega) h
theorem sp_X12_matchedTo (b : Int) (B : Int → Int) (hb : 0 ≤ b ∧ b < 12) (H : PH) (hB : ∀ x, 0 ≤ x → x < 864 → H 608 x = B x) : SPEC 217 [(2, 590), (0, b)] H (fun r H' => r = some (0, mtoF B b 72 0 0) ∧ H' = H) := by
  intro E n res h
  have h := call_runP 4 vm_X12_matchedTo h
  have h := xw_top (hd := [4]) 5 xD6_ok xc_X12_matchedTo xa_X12_matchedTo (t := 0) rfl h
  simp (maxDischargeDepth := 12) -implicitDefEqProofs [vb_X12_matchedTo_0, vb_X12_matchedTo_4, vb_X12_matchedTo_30, xI_0, xI_1, xI_3, xI_6, xI_7, xI_8, xI_14, xI_16, xI_36, xI_46, xI_49, xI_51, xI_62, xw_X12_matchedTo_0, xw_X12_matchedTo_4, xw_X12_matchedTo_30, zw_lit, xB_c, xB_s, xB_n, i1_c, j2_c, k1_c, jJ_e, xlg, xls, xla, xpd, ppush, zw_m1, zw_m2, zw_m3, gf_12_29, tg_12_29, gv_590_29, xD1, xD2, xD3, xD4, xD5, xD6, xb1_0] at h
  obtain ⟨m, hm, h⟩ := h
  have h := lp_mto b B hb H hB m 0 0 (by omega) (by omega) h
  exact ⟨_, H, h, rfl, rfl⟩
def shdA (A : Int → Int) (b : Int) : Int := max 0 (zw (zw (min (agdA A b) (dueA A b) + mtoA A b) - A (92 + 26 * b + 12)))
theorem sp_X12_shedOf (b : Int) (H : PH) (hb : 0 ≤ b ∧ b < 12) (hB : MB (H 591)) (hL : ML (H 591)) (hf : 0 ≤ H 591 4 ∧ H 591 4 ≤ 24) : SPEC 251 [(2, 590), (0, b)] H (fun r H' => r = some (0, shdA (H 591) b) ∧ SCm [598, 599, 600, 601, 602, 603, 604, 605, 606, 607, 608, 609] [17, 18, 19, 26, 31, 32] H H') := by
  intro E n res h
  have z1 : zw (26 * b) = 26 * b := zw_lit (by omega) (by omega)
  have z2 : zw (92 + 26 * b) = 92 + 26 * b := zw_lit (by omega) (by omega)
  have z3 : zw (92 + 26 * b + 12) = 92 + 26 * b + 12 := zw_lit (by omega) (by omega)
  have h := call_runP 2 vm_X12_shedOf h
  have h := xw_top (hd := []) 3 xD6_ok xc_X12_shedOf xa_X12_shedOf (t := 0) rfl h
  simp (maxDischargeDepth := 12) -implicitDefEqProofs [vb_X12_shedOf_0, xI_0, xI_1, xI_7, xI_8, xI_14, xI_15, xI_49, xI_51, xI_60, xI_61, xI_62, xw_X12_shedOf_0, zw_lit, xB_c, xB_s, xB_n, i1_c, j2_c, k1_c, jJ_e, xlg, xls, xla, xpd, ppush, zw_m1, zw_m2, zw_m3, gf_12_0, gf_12_25, tg_12_0, tg_12_25, gv_590_0, gv_590_25, xD1, xD2, xD3, xD4, xD5, xD6, xb1_0] at h
  obtain ⟨r, H1, ⟨rfl, ⟨l1, t1, t2, t3, t4, t5, t6⟩, sc⟩, h⟩ := xc_use h (sp_X12_layMatched H hB hL hf)
  have eA : H1 591 = H 591 := sc.1 591 (by decide) (by decide)
  have e5 : H1 605 b = agdA (H 591) b := l1.2.2.2 b hb.1 (by have := l1.2.1; omega)
  simp (maxDischargeDepth := 12) -implicitDefEqProofs [vb_X12_shedOf_0, xI_0, xI_1, xI_7, xI_8, xI_14, xI_15, xI_49, xI_51, xI_60, xI_61, xI_62, xw_X12_shedOf_0, zw_lit, xB_c, xB_s, xB_n, i1_c, j2_c, k1_c, jJ_e, xlg, xls, xla, xpd, ppush, zw_m1, zw_m2, zw_m3, gf_12_0, gf_12_25, tg_12_0, tg_12_25, gv_590_0, gv_590_25, xD1, xD2, xD3, xD4, xD5, xD6, xb1_0, eA, hb, hB, e5] at h
  obtain ⟨r, H2, ⟨rfl, rfl⟩, h2⟩ := xc_use h (sp_X12_matchedTo b (mtZ (H 591)).2.2.1 hb H1 t3)
  simp (maxDischargeDepth := 12) -implicitDefEqProofs [vb_X12_shedOf_0, xI_0, xI_1, xI_7, xI_8, xI_14, xI_15, xI_49, xI_51, xI_60, xI_61, xI_62, xw_X12_shedOf_0, zw_lit, xB_c, xB_s, xB_n, i1_c, j2_c, k1_c, jJ_e, xlg, xls, xla, xpd, ppush, zw_m1, zw_m2, zw_m3, gf_12_0, gf_12_25, tg_12_0, tg_12_25, gv_590_0, gv_590_25, xD1, xD2, xD3, xD4, xD5, xD6, xb1_0, eA, z1, z2, z3] at h2
  exact ⟨_, _, h2, rfl, sc⟩
