theorem gf_1_8 : gfOK 1 8 = true := by decide +kernel
theorem gf_6_2 : gfOK 6 2 = true := by decide +kernel
theorem gf_6_6 : gfOK 6 6 = true := by decide +kernel
theorem pf_6_6 : pfOK 6 6 = true := by decide +kernel
theorem pf_6_130 : pfOK 6 130 = true := by decide +kernel
def xm_X6_refresh : List xbT := [(0, vb_X6_refresh_0, some 8), (8, vb_X6_refresh_8, some 43), (43, vb_X6_refresh_43, some 71), (71, vb_X6_refresh_71, some 80), (80, vb_X6_refresh_80, some 104), (104, vb_X6_refresh_104, some 106), (106, vb_X6_refresh_106, some 119), (119, vb_X6_refresh_119, some 142), (142, vb_X6_refresh_142, some 148), (148, vb_X6_refresh_148, some 154), (154, vb_X6_refresh_154, none)]
theorem xc_X6_refresh : xOK kd_X6_refresh xm_X6_refresh := ⟨ve_X6_refresh_0, ve_X6_refresh_8, ve_X6_refresh_43, ve_X6_refresh_71, ve_X6_refresh_80, ve_X6_refresh_104, ve_X6_refresh_106, ve_X6_refresh_119, ve_X6_refresh_142, ve_X6_refresh_148, ve_X6_refresh_154, trivial⟩
theorem xa_X6_refresh : xm_X6_refresh.all (fun q => aOKb q.2.1 && !q.2.1.isEmpty) = true := by decide +kernel
theorem xw_X6_refresh_0 {E : xE} {res : xR} {N : Nat} {hd : List Nat} {C : xCT} {k : Nat} {L : List Int} {st : List pv} {H : PH} : xW E res N kd_X6_refresh xm_X6_refresh hd C (k + 1) 0 L st H = xB (fun t L st H => if t ∈ hd then xJ E res N kd_X6_refresh t L st H else xW E res N kd_X6_refresh xm_X6_refresh hd C k t L st H) (REPR E res) C (some 8) vb_X6_refresh_0 0 L st H := Eq.trans rfl rfl
theorem xw_X6_refresh_8 {E : xE} {res : xR} {N : Nat} {hd : List Nat} {C : xCT} {k : Nat} {L : List Int} {st : List pv} {H : PH} : xW E res N kd_X6_refresh xm_X6_refresh hd C (k + 1) 8 L st H = xB (fun t L st H => if t ∈ hd then xJ E res N kd_X6_refresh t L st H else xW E res N kd_X6_refresh xm_X6_refresh hd C k t L st H) (REPR E res) C (some 43) vb_X6_refresh_8 8 L st H := Eq.trans rfl rfl
theorem xw_X6_refresh_43 {E : xE} {res : xR} {N : Nat} {hd : List Nat} {C : xCT} {k : Nat} {L : List Int} {st : List pv} {H : PH} : xW E res N kd_X6_refresh xm_X6_refresh hd C (k + 1) 43 L st H = xB (fun t L st H => if t ∈ hd then xJ E res N kd_X6_refresh t L st H else xW E res N kd_X6_refresh xm_X6_refresh hd C k t L st H) (REPR E res) C (some 71) vb_X6_refresh_43 43 L st H := Eq.trans rfl rfl
theorem xw_X6_refresh_71 {E : xE} {res : xR} {N : Nat} {hd : List Nat} {C : xCT} {k : Nat} {L : List Int} {st : List pv} {H : PH} : xW E res N kd_X6_refresh xm_X6_refresh hd C (k + 1) 71 L st H = xB (fun t L st H => if t ∈ hd then xJ E res N kd_X6_refresh t L st H else xW E res N kd_X6_refresh xm_X6_refresh hd C k t L st H) (REPR E res) C (some 80) vb_X6_refresh_71 71 L st H := Eq.trans rfl rfl
theorem xw_X6_refresh_80 {E : xE} {res : xR} {N : Nat} {hd : List Nat} {C : xCT} {k : Nat} {L : List Int} {st : List pv} {H : PH} : xW E res N kd_X6_refresh xm_X6_refresh hd C (k + 1) 80 L st H = xB (fun t L st H => if t ∈ hd then xJ E res N kd_X6_refresh t L st H else xW E res N kd_X6_refresh xm_X6_refresh hd C k t L st H) (REPR E res) C (some 104) vb_X6_refresh_80 80 L st H := Eq.trans rfl rfl
theorem xw_X6_refresh_104 {E : xE} {res : xR} {N : Nat} {hd : List Nat} {C : xCT} {k : Nat} {L : List Int} {st : List pv} {H : PH} : xW E res N kd_X6_refresh xm_X6_refresh hd C (k + 1) 104 L st H = xB (fun t L st H => if t ∈ hd then xJ E res N kd_X6_refresh t L st H else xW E res N kd_X6_refresh xm_X6_refresh hd C k t L st H) (REPR E res) C (some 106) vb_X6_refresh_104 104 L st H := Eq.trans rfl rfl
theorem xw_X6_refresh_106 {E : xE} {res : xR} {N : Nat} {hd : List Nat} {C : xCT} {k : Nat} {L : List Int} {st : List pv} {H : PH} : xW E res N kd_X6_refresh xm_X6_refresh hd C (k + 1) 106 L st H = xB (fun t L st H => if t ∈ hd then xJ E res N kd_X6_refresh t L st H else xW E res N kd_X6_refresh xm_X6_refresh hd C k t L st H) (REPR E res) C (some 119) vb_X6_refresh_106 106 L st H := Eq.trans rfl rfl
theorem xw_X6_refresh_119 {E : xE} {res : xR} {N : Nat} {hd : List Nat} {C : xCT} {k : Nat} {L : List Int} {st : List pv} {H : PH} : xW E res N kd_X6_refresh xm_X6_refresh hd C (k + 1) 119 L st H = xB (fun t L st H => if t ∈ hd then xJ E res N kd_X6_refresh t L st H else xW E res N kd_X6_refresh xm_X6_refresh hd C k t L st H) (REPR E res) C (some 142) vb_X6_refresh_119 119 L st H := Eq.trans rfl rfl
theorem xw_X6_refresh_142 {E : xE} {res : xR} {N : Nat} {hd : List Nat} {C : xCT} {k : Nat} {L : List Int} {st : List pv} {H : PH} : xW E res N kd_X6_refresh xm_X6_refresh hd C (k + 1) 142 L st H = xB (fun t L st H => if t ∈ hd then xJ E res N kd_X6_refresh t L st H else xW E res N kd_X6_refresh xm_X6_refresh hd C k t L st H) (REPR E res) C (some 148) vb_X6_refresh_142 142 L st H := Eq.trans rfl rfl
theorem xw_X6_refresh_148 {E : xE} {res : xR} {N : Nat} {hd : List Nat} {C : xCT} {k : Nat} {L : List Int} {st : List pv} {H : PH} : xW E res N kd_X6_refresh xm_X6_refresh hd C (k + 1) 148 L st H = xB (fun t L st H => if t ∈ hd then xJ E res N kd_X6_refresh t L st H else xW E res N kd_X6_refresh xm_X6_refresh hd C k t L st H) (REPR E res) C (some 154) vb_X6_refresh_148 148 L st H := Eq.trans rfl rfl
theorem xw_X6_refresh_154 {E : xE} {res : xR} {N : Nat} {hd : List Nat} {C : xCT} {k : Nat} {L : List Int} {st : List pv} {H : PH} : xW E res N kd_X6_refresh xm_X6_refresh hd C (k + 1) 154 L st H = xB (fun t L st H => if t ∈ hd then xJ E res N kd_X6_refresh t L st H else xW E res N kd_X6_refresh xm_X6_refresh hd C k t L st H) (REPR E res) C (none) vb_X6_refresh_154 154 L st H := Eq.trans rfl rfl
def xm_X6_broughtTo : List xbT := [(0, vb_X6_broughtTo_0, none)]
theorem xc_X6_broughtTo : xOK kd_X6_broughtTo xm_X6_broughtTo := ⟨ve_X6_broughtTo_0, trivial⟩
theorem xa_X6_broughtTo : xm_X6_broughtTo.all (fun q => aOKb q.2.1 && !q.2.1.isEmpty) = true := by decide +kernel
theorem xw_X6_broughtTo_0 {E : xE} {res : xR} {N : Nat} {hd : List Nat} {C : xCT} {k : Nat} {L : List Int} {st : List pv} {H : PH} : xW E res N kd_X6_broughtTo xm_X6_broughtTo hd C (k + 1) 0 L st H = xB (fun t L st H => if t ∈ hd then xJ E res N kd_X6_broughtTo t L st H else xW E res N kd_X6_broughtTo xm_X6_broughtTo hd C k t L st H) (REPR E res) C (none) vb_X6_broughtTo_0 0 L st H := Eq.trans rfl rfl
theorem tlF_inN {A : Int → Int} {N : Int} : ∀ (n : Nat) (k : Int) (t : tS), 0 ≤ k → k + n ≤ N → 0 ≤ t.1 → (∀ h, 0 ≤ h → h < t.1 → 0 ≤ t.2.1 h ∧ t.2.1 h < N) → ∀ h, 0 ≤ h → h < (tlF A n k t).1 → 0 ≤ (tlF A n k t).2.1 h ∧ (tlF A n k t).2.1 h < N
  | 0, _, _, _, _, _, hf => hf
  | n + 1, k, t, h0, h1, ht, hf => by
    unfold tlF
    have i2 := tlS_inN (A := A) (k := k) (N := N) ⟨h0, by omega⟩ ht hf
    have i1 : 0 ≤ (tlS A k t).1 := by
      have e : (tlS A k t).1 = (tlH A k t).1 := rfl
      rw [e]
      unfold tlH
      split
      · show 0 ≤ t.1 + 1
        omega
      · exact ht
    exact tlF_inN n (k + 1) _ (by omega) (by omega) i1 i2
theorem tlZ_inN {A : Int → Int} (hB : MB A) : ∀ h, 0 ≤ h → h < (tlZ A).1 → 0 ≤ (tlZ A).2.1 h ∧ (tlZ A).2.1 h < A 2 := by
  have := hB.2.2.1
  exact tlF_inN (A 2).toNat 0 _ (Int.le_refl _) (by omega) (Int.le_refl _) (fun h h0 (h1 : h < 0) => by omega)
/-- the class's matching, fresh -/
def MCf (A : Int → Int) (H : PH) : Prop := H 221 6 = 12 + (tlZ A).1 ∧ (∀ x, 0 ≤ x → x < 12 + (tlZ A).1 → H 222 x = offA A x ∧ ∀ y, 0 ≤ y → y < 12 → 0 < offA A x → 0 < wntA A y → H (225 + x) y = apfA A x y) ∧ (∀ x, 0 ≤ x → x < 12 → H 223 x = wntA A x) ∧ XM (tlZ A).1 (mtZ A) H
set_option maxRecDepth 100000 in
/-- the sources, one after another, at one gap -/
theorem lp_mr1 (A : Int → Int) (d : Int) (hd : 0 ≤ d ∧ d ≤ 24) (ht : 0 ≤ (tlZ A).1 ∧ (tlZ A).1 ≤ 60) (hA0 : 0 ≤ A 0 ∧ A 0 ≤ 12) {E : xE} {res : xR} : ∀ (n : Nat) (s : Int) (t : mS) (H : PH), 0 ≤ s → s ≤ 12 + (tlZ A).1 → H 1 2 = A 0 → H 221 6 = 12 + (tlZ A).1 → (∀ x y, 0 ≤ x → x < 12 + (tlZ A).1 → 0 ≤ y → y < 12 → 0 < offA A x → 0 < wntA A y → H (225 + x) y = apfA A x y) → MI A d (12 * s) t → XM (tlZ A).1 t H → RUN E res n kd_X6_refresh (zget kd_X6_refresh 119) 119 [221, d, s] [] H → ∃ (H' : PH) (w : Int), XM (tlZ A).1 (mtF A d (864 - 12 * s).toNat (12 * s) t) H' ∧ KF H H' ∧ (∀ i, ¬ i = 10 → ¬ i = 11 → H' 221 i = H 221 i) ∧ (∀ c, ¬ c = 221 → ¬ c = 297 → ¬ c = 298 → ¬ (300 ≤ c ∧ c ≤ 371) → H' c = H c) ∧ xJ E res n kd_X6_refresh 106 [221, d + 1, w] [] H' := by
  intro n
  induction n using Nat.strongRecOn with
  | _ n ih =>
    intro s t H hs0 hs1 hB h6 hG hI hX h
    have z1 : zw (s + 1) = s + 1 := zw_lit (by omega) (by omega)
    have z2 : zw (d + 1) = d + 1 := zw_lit (by omega) (by omega)
    by_cases q : 12 + (tlZ A).1 ≤ s
    · have h := xw_top (hd := [43, 106, 119]) 13 xD6_ok xc_X6_refresh xa_X6_refresh (t := 119) rfl h
      simp (maxDischargeDepth := 12) -implicitDefEqProofs [vb_X6_refresh_0, vb_X6_refresh_8, vb_X6_refresh_43, vb_X6_refresh_71, vb_X6_refresh_80, vb_X6_refresh_104, vb_X6_refresh_106, vb_X6_refresh_119, vb_X6_refresh_142, vb_X6_refresh_148, vb_X6_refresh_154, xI_0, xI_1, xI_3, xI_6, xI_7, xI_8, xI_14, xI_36, xI_37, xI_42, xI_46, xI_47, xI_49, xI_50, xI_51, xI_52, xI_61, xI_65, xw_X6_refresh_0, xw_X6_refresh_8, xw_X6_refresh_43, xw_X6_refresh_71, xw_X6_refresh_80, xw_X6_refresh_104, xw_X6_refresh_106, xw_X6_refresh_119, xw_X6_refresh_142, xw_X6_refresh_148, xw_X6_refresh_154, zw_lit, xB_c, xB_s, xB_n, i1_c, j2_c, k1_c, jJ_e, xlg, xls, xla, xpd, ppush, zw_m1, zw_m2, zw_m3, gf_1_8, gf_6_0, gf_6_1, gf_6_2, gf_6_3, gf_6_6, gf_6_7, gf_9_4, gf_9_7, pf_6_6, pf_6_10, pf_6_11, pf_6_130, tg_1_8, tg_6_0, tg_6_1, tg_6_10, tg_6_11, tg_6_2, tg_6_3, tg_6_6, tg_6_7, tg_9_4, tg_9_7, gv_1_8, gv_221_0, gv_221_1, gv_221_2, gv_221_3, gv_221_6, gv_221_7, gv_215_4, gv_215_7, xD1, xD2, xD3, xD4, xD5, xD6, xb1_0, h6, z1, z2] at h
      have h := (h.resolve_right (by omega)).2
      rw [mtF_skip hd.2 _ _ hI (fun j j0 j1 e => by
        have w := (farK_lt hd.2 e).1
        unfold offA at w
        rw [if_neg (by omega), if_neg (by omega)] at w
        omega)]
      exact ⟨H, _, hX, KF_refl, fun _ _ _ => rfl, fun _ _ _ _ _ => rfl, h⟩
    · obtain ⟨x1, x2, x3, x4, x5⟩ := id hX
      obtain ⟨m1, m2, m3, m4, m5, m6⟩ := id hI
      have e7 : H 297 s = t.1 s := x1 s hs0 (by omega)
      have I' := mtF_I hd.2 12 (12 * s) t hI
      rw [show 12 * s + ((12 : Nat) : Int) = 12 * (s + 1) by omega] at I'
      have ea : mtF A d (864 - 12 * s).toNat (12 * s) t = mtF A d (864 - 12 * (s + 1)).toNat (12 * (s + 1)) (mtF A d 12 (12 * s) t) := by
        rw [show (864 - 12 * s).toNat = 12 + (864 - 12 * (s + 1)).toNat by omega, mtF_add, show 12 * s + ((12 : Nat) : Int) = 12 * (s + 1) by omega]
      rw [ea]
      by_cases c : 0 < t.1 s
      · have ho : 0 < offA A s := by
          by_cases o : 0 < offA A s
          · exact o
          · have := m2 s o
            omega
        have h := xw_top (hd := [43, 106, 119]) 13 xD6_ok xc_X6_refresh xa_X6_refresh (t := 119) rfl h
        simp (maxDischargeDepth := 12) -implicitDefEqProofs [vb_X6_refresh_0, vb_X6_refresh_8, vb_X6_refresh_43, vb_X6_refresh_71, vb_X6_refresh_80, vb_X6_refresh_104, vb_X6_refresh_106, vb_X6_refresh_119, vb_X6_refresh_142, vb_X6_refresh_148, vb_X6_refresh_154, xI_0, xI_1, xI_3, xI_6, xI_7, xI_8, xI_14, xI_36, xI_37, xI_42, xI_46, xI_47, xI_49, xI_50, xI_51, xI_52, xI_61, xI_65, xw_X6_refresh_0, xw_X6_refresh_8, xw_X6_refresh_43, xw_X6_refresh_71, xw_X6_refresh_80, xw_X6_refresh_104, xw_X6_refresh_106, xw_X6_refresh_119, xw_X6_refresh_142, xw_X6_refresh_148, xw_X6_refresh_154, zw_lit, xB_c, xB_s, xB_n, i1_c, j2_c, k1_c, jJ_e, xlg, xls, xla, xpd, ppush, zw_m1, zw_m2, zw_m3, gf_1_8, gf_6_0, gf_6_1, gf_6_2, gf_6_3, gf_6_6, gf_6_7, gf_9_4, gf_9_7, pf_6_6, pf_6_10, pf_6_11, pf_6_130, tg_1_8, tg_6_0, tg_6_1, tg_6_10, tg_6_11, tg_6_2, tg_6_3, tg_6_6, tg_6_7, tg_9_4, tg_9_7, gv_1_8, gv_221_0, gv_221_1, gv_221_2, gv_221_3, gv_221_6, gv_221_7, gv_215_4, gv_215_7, xD1, xD2, xD3, xD4, xD5, xD6, xb1_0, h6, z1, z2, e7] at h
        have h := (h.resolve_left (by omega)).2
        have h := (h.resolve_left (by omega)).2
        obtain ⟨r, H2, ⟨rfl, a1, a2, a3, a4⟩, h⟩ := xc_use h (sp_X6_moveFrom A d s (tlZ A).1 t H hd ht ⟨hs0, by omega⟩ ho hA0 hB (fun y y0 y1 y2 => hG s y hs0 (by omega) y0 y1 ho y2) hI hX)
        simp (maxDischargeDepth := 12) -implicitDefEqProofs [vb_X6_refresh_0, vb_X6_refresh_8, vb_X6_refresh_43, vb_X6_refresh_71, vb_X6_refresh_80, vb_X6_refresh_104, vb_X6_refresh_106, vb_X6_refresh_119, vb_X6_refresh_142, vb_X6_refresh_148, vb_X6_refresh_154, xI_0, xI_1, xI_3, xI_6, xI_7, xI_8, xI_14, xI_36, xI_37, xI_42, xI_46, xI_47, xI_49, xI_50, xI_51, xI_52, xI_61, xI_65, xw_X6_refresh_0, xw_X6_refresh_8, xw_X6_refresh_43, xw_X6_refresh_71, xw_X6_refresh_80, xw_X6_refresh_104, xw_X6_refresh_106, xw_X6_refresh_119, xw_X6_refresh_142, xw_X6_refresh_148, xw_X6_refresh_154, zw_lit, xB_c, xB_s, xB_n, i1_c, j2_c, k1_c, jJ_e, xlg, xls, xla, xpd, ppush, zw_m1, zw_m2, zw_m3, gf_1_8, gf_6_0, gf_6_1, gf_6_2, gf_6_3, gf_6_6, gf_6_7, gf_9_4, gf_9_7, pf_6_6, pf_6_10, pf_6_11, pf_6_130, tg_1_8, tg_6_0, tg_6_1, tg_6_10, tg_6_11, tg_6_2, tg_6_3, tg_6_6, tg_6_7, tg_9_4, tg_9_7, gv_1_8, gv_221_0, gv_221_1, gv_221_2, gv_221_3, gv_221_6, gv_221_7, gv_215_4, gv_215_7, xD1, xD2, xD3, xD4, xD5, xD6, xb1_0, z1] at h
        obtain ⟨m, hm, h⟩ := h
        obtain ⟨H', w, g1, g2, g3, g4, g5⟩ := ih m hm (s + 1) _ H2 (by omega) (by omega) (by rw [a4 1 (by decide) (by decide) (by decide) (by decide)]; exact hB) (by rw [a3 6 (by decide) (by decide)]; exact h6) (fun x y p0 p1 p2 p3 p4 p5 => by rw [a4 _ (by omega) (by omega) (by omega) (by omega)]; exact hG x y p0 p1 p2 p3 p4 p5) I' a1 h
        exact ⟨H', w, g1, KF_trans a2 g2, fun i p1 p2 => (g3 i p1 p2).trans (a3 i p1 p2), fun c p1 p2 p3 p4 => (g4 c p1 p2 p3 p4).trans (a4 c p1 p2 p3 p4), xJ_up g5 (by omega)⟩
      · have e := mtF_skip hd.2 12 (12 * s) hI (fun j j0 j1 e => Or.inl (by
          have w := (farK_lt hd.2 e).1
          rw [show j / 12 = s by omega] at w ⊢
          have := m1 s w
          omega))
        rw [e] at I' ⊢
        have h := xw_top (hd := [43, 106, 119]) 13 xD6_ok xc_X6_refresh xa_X6_refresh (t := 119) rfl h
        simp (maxDischargeDepth := 12) -implicitDefEqProofs [vb_X6_refresh_0, vb_X6_refresh_8, vb_X6_refresh_43, vb_X6_refresh_71, vb_X6_refresh_80, vb_X6_refresh_104, vb_X6_refresh_106, vb_X6_refresh_119, vb_X6_refresh_142, vb_X6_refresh_148, vb_X6_refresh_154, xI_0, xI_1, xI_3, xI_6, xI_7, xI_8, xI_14, xI_36, xI_37, xI_42, xI_46, xI_47, xI_49, xI_50, xI_51, xI_52, xI_61, xI_65, xw_X6_refresh_0, xw_X6_refresh_8, xw_X6_refresh_43, xw_X6_refresh_71, xw_X6_refresh_80, xw_X6_refresh_104, xw_X6_refresh_106, xw_X6_refresh_119, xw_X6_refresh_142, xw_X6_refresh_148, xw_X6_refresh_154, zw_lit, xB_c, xB_s, xB_n, i1_c, j2_c, k1_c, jJ_e, xlg, xls, xla, xpd, ppush, zw_m1, zw_m2, zw_m3, gf_1_8, gf_6_0, gf_6_1, gf_6_2, gf_6_3, gf_6_6, gf_6_7, gf_9_4, gf_9_7, pf_6_6, pf_6_10, pf_6_11, pf_6_130, tg_1_8, tg_6_0, tg_6_1, tg_6_10, tg_6_11, tg_6_2, tg_6_3, tg_6_6, tg_6_7, tg_9_4, tg_9_7, gv_1_8, gv_221_0, gv_221_1, gv_221_2, gv_221_3, gv_221_6, gv_221_7, gv_215_4, gv_215_7, xD1, xD2, xD3, xD4, xD5, xD6, xb1_0, h6, z1, z2, e7] at h
        have h := (h.resolve_left (by omega)).2
        have h := (h.resolve_right (by omega)).2
        obtain ⟨m, hm, h⟩ := h
        obtain ⟨H', w, g1, g2, g3, g4, g5⟩ := ih m hm (s + 1) t H (by omega) (by omega) hB h6 hG I' hX h
        exact ⟨H', w, g1, g2, g3, g4, xJ_up g5 (by omega)⟩
set_option maxRecDepth 100000 in
theorem lp_mr2 (A : Int → Int) (hf : 0 ≤ A 4 ∧ A 4 ≤ 24) (ht : 0 ≤ (tlZ A).1 ∧ (tlZ A).1 ≤ 60) (hA0 : 0 ≤ A 0 ∧ A 0 ≤ 12) {E : xE} {res : xR} : ∀ (n : Nat) (d u : Int) (t : mS) (H : PH), 0 ≤ d → d ≤ A 4 + 1 → H 1 2 = A 0 → H 1 8 = A 4 → H 221 6 = 12 + (tlZ A).1 → (∀ x y, 0 ≤ x → x < 12 + (tlZ A).1 → 0 ≤ y → y < 12 → 0 < offA A x → 0 < wntA A y → H (225 + x) y = apfA A x y) → MI A d 0 t → XM (tlZ A).1 t H → RUN E res n kd_X6_refresh (zget kd_X6_refresh 106) 106 [221, d, u] [] H → ∃ H' : PH, XM (tlZ A).1 (mtG A (A 4 + 1 - d).toNat d t) H' ∧ KF H H' ∧ (∀ i, ¬ i = 10 → ¬ i = 11 → H' 221 i = H 221 i) ∧ (∀ c, ¬ c = 221 → ¬ c = 297 → ¬ c = 298 → ¬ (300 ≤ c ∧ c ≤ 371) → H' c = H c) ∧ REPR E res none H' := by
  intro n
  induction n using Nat.strongRecOn with
  | _ n ih =>
    intro d u t H hd0 hd1 hB h8 h6 hG hI hX h
    have h := xw_top (hd := [43, 106, 119]) 13 xD6_ok xc_X6_refresh xa_X6_refresh (t := 106) rfl h
    simp (maxDischargeDepth := 12) -implicitDefEqProofs [vb_X6_refresh_0, vb_X6_refresh_8, vb_X6_refresh_43, vb_X6_refresh_71, vb_X6_refresh_80, vb_X6_refresh_104, vb_X6_refresh_106, vb_X6_refresh_119, vb_X6_refresh_142, vb_X6_refresh_148, vb_X6_refresh_154, xI_0, xI_1, xI_3, xI_6, xI_7, xI_8, xI_14, xI_36, xI_37, xI_42, xI_46, xI_47, xI_49, xI_50, xI_51, xI_52, xI_61, xI_65, xw_X6_refresh_0, xw_X6_refresh_8, xw_X6_refresh_43, xw_X6_refresh_71, xw_X6_refresh_80, xw_X6_refresh_104, xw_X6_refresh_106, xw_X6_refresh_119, xw_X6_refresh_142, xw_X6_refresh_148, xw_X6_refresh_154, zw_lit, xB_c, xB_s, xB_n, i1_c, j2_c, k1_c, jJ_e, xlg, xls, xla, xpd, ppush, zw_m1, zw_m2, zw_m3, gf_1_8, gf_6_0, gf_6_1, gf_6_2, gf_6_3, gf_6_6, gf_6_7, gf_9_4, gf_9_7, pf_6_6, pf_6_10, pf_6_11, pf_6_130, tg_1_8, tg_6_0, tg_6_1, tg_6_10, tg_6_11, tg_6_2, tg_6_3, tg_6_6, tg_6_7, tg_9_4, tg_9_7, gv_1_8, gv_221_0, gv_221_1, gv_221_2, gv_221_3, gv_221_6, gv_221_7, gv_215_4, gv_215_7, xD1, xD2, xD3, xD4, xD5, xD6, xb1_0, h8] at h
    rcases h with ⟨c, h⟩ | ⟨c, m, hm, h⟩
    · rw [show (A 4 + 1 - d).toNat = 0 by omega]
      exact ⟨H, hX, KF_refl, fun _ _ _ => rfl, fun _ _ _ _ _ => rfl, h⟩
    · obtain ⟨H1, w, g1, g2, g3, g4, m2, hm2, g5⟩ := lp_mr1 A d ⟨hd0, by omega⟩ ht hA0 m 0 t H (by omega) (by omega) hB h6 hG (by rw [Int.mul_zero]; exact hI) hX h
      rw [Int.mul_zero, Int.sub_zero] at g1
      have I' := mtF_I (by omega) 864 0 t hI
      rw [show (A 4 + 1 - d).toNat = (A 4 + 1 - (d + 1)).toNat + 1 by omega]
      obtain ⟨H', k1, k2, k3, k4, k5⟩ := ih m2 (by omega) (d + 1) w _ H1 (by omega) (by omega) (by rw [g4 1 (by decide) (by decide) (by decide) (by decide)]; exact hB) (by rw [g4 1 (by decide) (by decide) (by decide) (by decide)]; exact h8) (by rw [g3 6 (by decide) (by decide)]; exact h6) (fun x y p0 p1 p2 p3 p4 p5 => by rw [g4 _ (by omega) (by omega) (by omega) (by omega)]; exact hG x y p0 p1 p2 p3 p4 p5) (MI_d I') g1 g5
      exact ⟨H', k1, KF_trans g2 k2, fun i p1 p2 => (k3 i p1 p2).trans (g3 i p1 p2), fun c p1 p2 p3 p4 => (k4 c p1 p2 p3 p4).trans (g4 c p1 p2 p3 p4), k5⟩
set_option maxRecDepth 100000 in
/-- each source, measured -/
theorem lp_mr0 (A : Int → Int) (hB : MB A) (ht : 0 ≤ (tlZ A).1 ∧ (tlZ A).1 ≤ 60) {E : xE} {res : xR} : ∀ (n : Nat) (s u : Int) (H : PH), 0 ≤ s → s ≤ 12 + (tlZ A).1 → CI H A → TCf A H → H 221 6 = 12 + (tlZ A).1 → (∀ x, 0 ≤ x → x < 12 → H 222 x = offA A x ∧ H 223 x = wntA A x ∧ H 298 x = wntA A x) → (∀ x, 0 ≤ x → x < s → H 222 x = offA A x ∧ H 297 x = offA A x ∧ ∀ y, 0 ≤ y → y < 12 → H (300 + x) y = 0 ∧ (0 < offA A x → 0 < wntA A y → H (225 + x) y = apfA A x y)) → RUN E res n kd_X6_refresh (zget kd_X6_refresh 43) 43 [221, s, u] [] H → ∃ H' : PH, CI H' A ∧ (∀ x, 0 ≤ x → x < 12 → H' 223 x = wntA A x ∧ H' 298 x = wntA A x) ∧ (∀ x, 0 ≤ x → x < 12 + (tlZ A).1 → H' 222 x = offA A x ∧ H' 297 x = offA A x ∧ ∀ y, 0 ≤ y → y < 12 → H' (300 + x) y = 0 ∧ (0 < offA A x → 0 < wntA A y → H' (225 + x) y = apfA A x y)) ∧ KF H H' ∧ H' 221 = H 221 ∧ xJ E res n kd_X6_refresh 106 [221, 0, u] [] H' := by
  intro n
  induction n using Nat.strongRecOn with
  | _ n ih =>
    intro s u H hs0 hs1 ci hT h6 hW hR h
    have z1 : zw (s + 1) = s + 1 := zw_lit (by omega) (by omega)
    by_cases q : 12 + (tlZ A).1 ≤ s
    · have h := xw_top (hd := [43, 106, 119]) 13 xD6_ok xc_X6_refresh xa_X6_refresh (t := 43) rfl h
      simp (maxDischargeDepth := 12) -implicitDefEqProofs [vb_X6_refresh_0, vb_X6_refresh_8, vb_X6_refresh_43, vb_X6_refresh_71, vb_X6_refresh_80, vb_X6_refresh_104, vb_X6_refresh_106, vb_X6_refresh_119, vb_X6_refresh_142, vb_X6_refresh_148, vb_X6_refresh_154, xI_0, xI_1, xI_3, xI_6, xI_7, xI_8, xI_14, xI_36, xI_37, xI_42, xI_46, xI_47, xI_49, xI_50, xI_51, xI_52, xI_61, xI_65, xw_X6_refresh_0, xw_X6_refresh_8, xw_X6_refresh_43, xw_X6_refresh_71, xw_X6_refresh_80, xw_X6_refresh_104, xw_X6_refresh_106, xw_X6_refresh_119, xw_X6_refresh_142, xw_X6_refresh_148, xw_X6_refresh_154, zw_lit, xB_c, xB_s, xB_n, i1_c, j2_c, k1_c, jJ_e, xlg, xls, xla, xpd, ppush, zw_m1, zw_m2, zw_m3, gf_1_8, gf_6_0, gf_6_1, gf_6_2, gf_6_3, gf_6_6, gf_6_7, gf_9_4, gf_9_7, pf_6_6, pf_6_10, pf_6_11, pf_6_130, tg_1_8, tg_6_0, tg_6_1, tg_6_10, tg_6_11, tg_6_2, tg_6_3, tg_6_6, tg_6_7, tg_9_4, tg_9_7, gv_1_8, gv_221_0, gv_221_1, gv_221_2, gv_221_3, gv_221_6, gv_221_7, gv_215_4, gv_215_7, xD1, xD2, xD3, xD4, xD5, xD6, xb1_0, h6] at h
      have h := (h.resolve_right (by omega)).2
      exact ⟨H, ci, fun x x0 x1 => (hW x x0 x1).2, fun x x0 x1 => hR x x0 (by omega), KF_refl, rfl, h⟩
    · have t0 := hT.1.1
      have cont : ∀ (H2 : PH), CI H2 A → (∀ x, 0 ≤ x → x < 12 → H2 (300 + s) x = 0 ∧ (0 < offA A s → 0 < wntA A x → H2 (225 + s) x = apfA A s x)) → MF s (pup (pup H 222 s (offA A s)) 297 s (offA A s)) H2 → xJ E res n kd_X6_refresh 43 [221, s + 1, u] [] H2 → ∃ H' : PH, CI H' A ∧ (∀ x, 0 ≤ x → x < 12 → H' 223 x = wntA A x ∧ H' 298 x = wntA A x) ∧ (∀ x, 0 ≤ x → x < 12 + (tlZ A).1 → H' 222 x = offA A x ∧ H' 297 x = offA A x ∧ ∀ y, 0 ≤ y → y < 12 → H' (300 + x) y = 0 ∧ (0 < offA A x → 0 < wntA A y → H' (225 + x) y = apfA A x y)) ∧ KF H H' ∧ H' 221 = H 221 ∧ xJ E res n kd_X6_refresh 106 [221, 0, u] [] H' := by
        rintro H2 a1 a2 a3 ⟨m, hm, g⟩
        have e : ∀ c, 213 ≤ c → c ≤ 371 → ¬ c = 225 + s → ¬ c = 300 + s → H2 c = pup (pup H 222 s (offA A s)) 297 s (offA A s) c := fun c c0 c1 c2 c3 => a3.1 c (by omega) (by omega) (nKL c0 (by omega)).1 (nKL c0 (by omega)).2 c2 c3
        have kf : KF H H2 := KF_trans (KF_up (by decide)) (KF_trans (KF_up (by decide)) (KF_M ⟨hs0, by omega⟩ a3))
        have e221 : H2 221 = H 221 := by rw [e 221 (by decide) (by decide) (by omega) (by omega), xp_ne (by decide), xp_ne (by decide)]
        have e222 : ∀ x, H2 222 x = if x = s then offA A s else H 222 x := fun x => by rw [e 222 (by decide) (by decide) (by omega) (by omega), xp_ne (by decide), xp_at]
        have e297 : ∀ x, H2 297 x = if x = s then offA A s else H 297 x := fun x => by rw [e 297 (by decide) (by decide) (by omega) (by omega), xp_at, xp_ne (by decide)]
        have e223 : H2 223 = H 223 := by rw [e 223 (by decide) (by decide) (by omega) (by omega), xp_ne (by decide), xp_ne (by decide)]
        have e298 : H2 298 = H 298 := by rw [e 298 (by decide) (by decide) (by omega) (by omega), xp_ne (by decide), xp_ne (by decide)]
        obtain ⟨H', k1, k2, k3, k4, k5, k6⟩ := ih m hm (s + 1) u H2 (by omega) (by omega) a1 (TCf_KF kf hT) (by rw [e221]; exact h6) (fun x x0 x1 => by
          obtain ⟨w1, w2, w3⟩ := hW x x0 x1
          rw [e222, e223, e298]
          refine ⟨?_, w2, w3⟩
          split
          · rename_i e
            rw [e]
          · exact w1) (fun x x0 x1 => by
          rw [e222, e297]
          by_cases f : x = s
          · rw [if_pos f, if_pos f, f]
            exact ⟨rfl, rfl, a2⟩
          · obtain ⟨w1, w2, w3⟩ := hR x x0 (by omega)
            rw [if_neg f, if_neg f, e (300 + x) (by omega) (by omega) (by omega) (by omega), e (225 + x) (by omega) (by omega) (by omega) (by omega), xp_ne (c' := 300 + x) (by omega), xp_ne (c' := 300 + x) (by omega), xp_ne (c' := 225 + x) (by omega), xp_ne (c' := 225 + x) (by omega)]
            exact ⟨w1, w2, w3⟩) g
        exact ⟨H', k1, k2, k3, KF_trans kf k4, k5.trans e221, xJ_up k6 (by omega)⟩
      have sp := sp_X6_measure s A (pup (pup H 222 s (offA A s)) 297 s (offA A s)) hB ht (tlZ_inN hB) ⟨hs0, by omega⟩ (CI_Z hB ci (fun c hc => by rw [xp_ne (by omega), xp_ne (by omega)])) (by rw [xp_ne (by decide), xp_at, if_pos rfl]) (fun x x0 x1 => by rw [xp_ne (by decide), xp_ne (by decide)]; exact (hW x x0 x1).2.1) (fun x x0 x1 => by rw [xp_ne (by decide), xp_ne (by decide)]; exact hT.1.2.1 x x0 x1)
      by_cases c : s < 12
      · have e2 : H 222 s = offA A s := (hW s hs0 c).1
        have h := xw_top (hd := [43, 106, 119]) 13 xD6_ok xc_X6_refresh xa_X6_refresh (t := 43) rfl h
        simp (maxDischargeDepth := 12) -implicitDefEqProofs [vb_X6_refresh_0, vb_X6_refresh_8, vb_X6_refresh_43, vb_X6_refresh_71, vb_X6_refresh_80, vb_X6_refresh_104, vb_X6_refresh_106, vb_X6_refresh_119, vb_X6_refresh_142, vb_X6_refresh_148, vb_X6_refresh_154, xI_0, xI_1, xI_3, xI_6, xI_7, xI_8, xI_14, xI_36, xI_37, xI_42, xI_46, xI_47, xI_49, xI_50, xI_51, xI_52, xI_61, xI_65, xw_X6_refresh_0, xw_X6_refresh_8, xw_X6_refresh_43, xw_X6_refresh_71, xw_X6_refresh_80, xw_X6_refresh_104, xw_X6_refresh_106, xw_X6_refresh_119, xw_X6_refresh_142, xw_X6_refresh_148, xw_X6_refresh_154, zw_lit, xB_c, xB_s, xB_n, i1_c, j2_c, k1_c, jJ_e, xlg, xls, xla, xpd, ppush, zw_m1, zw_m2, zw_m3, gf_1_8, gf_6_0, gf_6_1, gf_6_2, gf_6_3, gf_6_6, gf_6_7, gf_9_4, gf_9_7, pf_6_6, pf_6_10, pf_6_11, pf_6_130, tg_1_8, tg_6_0, tg_6_1, tg_6_10, tg_6_11, tg_6_2, tg_6_3, tg_6_6, tg_6_7, tg_9_4, tg_9_7, gv_1_8, gv_221_0, gv_221_1, gv_221_2, gv_221_3, gv_221_6, gv_221_7, gv_215_4, gv_215_7, xD1, xD2, xD3, xD4, xD5, xD6, xb1_0, h6, z1, e2, xp_ne, xp_at] at h
        have h := (h.resolve_left (by omega)).2
        have h := (h.resolve_left (by omega)).2
        obtain ⟨r, H2, ⟨rfl, a1, a2, a3⟩, h⟩ := xc_use h sp
        simp (maxDischargeDepth := 12) -implicitDefEqProofs [vb_X6_refresh_0, vb_X6_refresh_8, vb_X6_refresh_43, vb_X6_refresh_71, vb_X6_refresh_80, vb_X6_refresh_104, vb_X6_refresh_106, vb_X6_refresh_119, vb_X6_refresh_142, vb_X6_refresh_148, vb_X6_refresh_154, xI_0, xI_1, xI_3, xI_6, xI_7, xI_8, xI_14, xI_36, xI_37, xI_42, xI_46, xI_47, xI_49, xI_50, xI_51, xI_52, xI_61, xI_65, xw_X6_refresh_0, xw_X6_refresh_8, xw_X6_refresh_43, xw_X6_refresh_71, xw_X6_refresh_80, xw_X6_refresh_104, xw_X6_refresh_106, xw_X6_refresh_119, xw_X6_refresh_142, xw_X6_refresh_148, xw_X6_refresh_154, zw_lit, xB_c, xB_s, xB_n, i1_c, j2_c, k1_c, jJ_e, xlg, xls, xla, xpd, ppush, zw_m1, zw_m2, zw_m3, gf_1_8, gf_6_0, gf_6_1, gf_6_2, gf_6_3, gf_6_6, gf_6_7, gf_9_4, gf_9_7, pf_6_6, pf_6_10, pf_6_11, pf_6_130, tg_1_8, tg_6_0, tg_6_1, tg_6_10, tg_6_11, tg_6_2, tg_6_3, tg_6_6, tg_6_7, tg_9_4, tg_9_7, gv_1_8, gv_221_0, gv_221_1, gv_221_2, gv_221_3, gv_221_6, gv_221_7, gv_215_4, gv_215_7, xD1, xD2, xD3, xD4, xD5, xD6, xb1_0, z1] at h
        exact cont H2 a1 a2 a3 h
      · have e2 : H 220 s = offA A s := by
          unfold offA
          rw [if_neg c, if_pos (by omega)]
          exact hT.2.2.2 s hs0 (by omega)
        have h := xw_top (hd := [43, 106, 119]) 13 xD6_ok xc_X6_refresh xa_X6_refresh (t := 43) rfl h
        simp (maxDischargeDepth := 12) -implicitDefEqProofs [vb_X6_refresh_0, vb_X6_refresh_8, vb_X6_refresh_43, vb_X6_refresh_71, vb_X6_refresh_80, vb_X6_refresh_104, vb_X6_refresh_106, vb_X6_refresh_119, vb_X6_refresh_142, vb_X6_refresh_148, vb_X6_refresh_154, xI_0, xI_1, xI_3, xI_6, xI_7, xI_8, xI_14, xI_36, xI_37, xI_42, xI_46, xI_47, xI_49, xI_50, xI_51, xI_52, xI_61, xI_65, xw_X6_refresh_0, xw_X6_refresh_8, xw_X6_refresh_43, xw_X6_refresh_71, xw_X6_refresh_80, xw_X6_refresh_104, xw_X6_refresh_106, xw_X6_refresh_119, xw_X6_refresh_142, xw_X6_refresh_148, xw_X6_refresh_154, zw_lit, xB_c, xB_s, xB_n, i1_c, j2_c, k1_c, jJ_e, xlg, xls, xla, xpd, ppush, zw_m1, zw_m2, zw_m3, gf_1_8, gf_6_0, gf_6_1, gf_6_2, gf_6_3, gf_6_6, gf_6_7, gf_9_4, gf_9_7, pf_6_6, pf_6_10, pf_6_11, pf_6_130, tg_1_8, tg_6_0, tg_6_1, tg_6_10, tg_6_11, tg_6_2, tg_6_3, tg_6_6, tg_6_7, tg_9_4, tg_9_7, gv_1_8, gv_221_0, gv_221_1, gv_221_2, gv_221_3, gv_221_6, gv_221_7, gv_215_4, gv_215_7, xD1, xD2, xD3, xD4, xD5, xD6, xb1_0, h6, z1, e2, xp_ne, xp_at] at h
        have h := (h.resolve_left (by omega)).2
        have h := (h.resolve_right (by omega)).2
        obtain ⟨r, H2, ⟨rfl, a1, a2, a3⟩, h⟩ := xc_use h sp
        simp (maxDischargeDepth := 12) -implicitDefEqProofs [vb_X6_refresh_0, vb_X6_refresh_8, vb_X6_refresh_43, vb_X6_refresh_71, vb_X6_refresh_80, vb_X6_refresh_104, vb_X6_refresh_106, vb_X6_refresh_119, vb_X6_refresh_142, vb_X6_refresh_148, vb_X6_refresh_154, xI_0, xI_1, xI_3, xI_6, xI_7, xI_8, xI_14, xI_36, xI_37, xI_42, xI_46, xI_47, xI_49, xI_50, xI_51, xI_52, xI_61, xI_65, xw_X6_refresh_0, xw_X6_refresh_8, xw_X6_refresh_43, xw_X6_refresh_71, xw_X6_refresh_80, xw_X6_refresh_104, xw_X6_refresh_106, xw_X6_refresh_119, xw_X6_refresh_142, xw_X6_refresh_148, xw_X6_refresh_154, zw_lit, xB_c, xB_s, xB_n, i1_c, j2_c, k1_c, jJ_e, xlg, xls, xla, xpd, ppush, zw_m1, zw_m2, zw_m3, gf_1_8, gf_6_0, gf_6_1, gf_6_2, gf_6_3, gf_6_6, gf_6_7, gf_9_4, gf_9_7, pf_6_6, pf_6_10, pf_6_11, pf_6_130, tg_1_8, tg_6_0, tg_6_1, tg_6_10, tg_6_11, tg_6_2, tg_6_3, tg_6_6, tg_6_7, tg_9_4, tg_9_7, gv_1_8, gv_221_0, gv_221_1, gv_221_2, gv_221_3, gv_221_6, gv_221_7, gv_215_4, gv_215_7, xD1, xD2, xD3, xD4, xD5, xD6, xb1_0, z1] at h
        exact cont H2 a1 a2 a3 h
set_option maxRecDepth 100000 in
theorem sp_X6_refresh (A : Int → Int) (H : PH) (hB : MB A) (hf : 0 ≤ A 4 ∧ A 4 ≤ 24) (ci : CI H A) (hT : TCf A H) (hM : ¬ H 221 2 = 0 → MCf A H) : SPEC 57 [(2, 221)] H (fun r H' => r = none ∧ CI H' A ∧ TCf A H' ∧ MCf A H' ∧ (¬ H 221 2 = 0 → H' = H) ∧ (H 221 2 = 0 → H' 221 2 = 1 ∧ KF H H')) := by
  intro E n res h
  by_cases q : H 221 2 = 0
  · have t1 : H 215 4 = (tlZ A).1 := hT.1.1
    have ht := hT.2.1
    have z : zw (12 + (tlZ A).1) = 12 + (tlZ A).1 := zw_lit (by omega) (by omega)
    have kf0 : KF H (pup (pup (pup (pup H 221 2 1) 221 6 (12 + (tlZ A).1)) 221 10 0) 221 11 0) := KF_trans (KF_fd (by decide)) (KF_trans (KF_fd (by decide)) (KF_trans (KF_fd (by decide)) (KF_fd (by decide))))
    have ci0 : CI (pup (pup (pup (pup H 221 2 1) 221 6 (12 + (tlZ A).1)) 221 10 0) 221 11 0) A := CI_Z hB ci (fun c hc => by rw [xp_ne (by omega), xp_ne (by omega), xp_ne (by omega), xp_ne (by omega)])
    have h := call_runP 3 vm_X6_refresh h
    have h := xw_top (hd := [43, 106, 119]) 13 xD6_ok xc_X6_refresh xa_X6_refresh (t := 0) rfl h
    simp (maxDischargeDepth := 12) -implicitDefEqProofs [vb_X6_refresh_0, vb_X6_refresh_8, vb_X6_refresh_43, vb_X6_refresh_71, vb_X6_refresh_80, vb_X6_refresh_104, vb_X6_refresh_106, vb_X6_refresh_119, vb_X6_refresh_142, vb_X6_refresh_148, vb_X6_refresh_154, xI_0, xI_1, xI_3, xI_6, xI_7, xI_8, xI_14, xI_36, xI_37, xI_42, xI_46, xI_47, xI_49, xI_50, xI_51, xI_52, xI_61, xI_65, xw_X6_refresh_0, xw_X6_refresh_8, xw_X6_refresh_43, xw_X6_refresh_71, xw_X6_refresh_80, xw_X6_refresh_104, xw_X6_refresh_106, xw_X6_refresh_119, xw_X6_refresh_142, xw_X6_refresh_148, xw_X6_refresh_154, zw_lit, xB_c, xB_s, xB_n, i1_c, j2_c, k1_c, jJ_e, xlg, xls, xla, xpd, ppush, zw_m1, zw_m2, zw_m3, gf_1_8, gf_6_0, gf_6_1, gf_6_2, gf_6_3, gf_6_6, gf_6_7, gf_9_4, gf_9_7, pf_6_6, pf_6_10, pf_6_11, pf_6_130, tg_1_8, tg_6_0, tg_6_1, tg_6_10, tg_6_11, tg_6_2, tg_6_3, tg_6_6, tg_6_7, tg_9_4, tg_9_7, gv_1_8, gv_221_0, gv_221_1, gv_221_2, gv_221_3, gv_221_6, gv_221_7, gv_215_4, gv_215_7, xD1, xD2, xD3, xD4, xD5, xD6, xb1_0, q, t1, z, xp_ne, xp_at] at h
    obtain ⟨r, H1, ⟨rfl, w1, w2⟩, h⟩ := xc_use h (sp_X6_weighBills A (pup (pup (pup (pup H 221 2 1) 221 6 (12 + (tlZ A).1)) 221 10 0) 221 11 0) hB ht ci0 (TCf_KF kf0 hT).2.2.2)
    have kf1 := KF_trans kf0 (KF_W w2)
    have e1 : H1 221 = pup (pup (pup (pup H 221 2 1) 221 6 (12 + (tlZ A).1)) 221 10 0) 221 11 0 221 := w2 221 (by decide) (by decide) (by decide)
    have ci1 : CI H1 A := CI_Z hB ci0 (fun c hc => w2 c (by omega) (by omega) (by omega))
    simp (maxDischargeDepth := 12) -implicitDefEqProofs [vb_X6_refresh_0, vb_X6_refresh_8, vb_X6_refresh_43, vb_X6_refresh_71, vb_X6_refresh_80, vb_X6_refresh_104, vb_X6_refresh_106, vb_X6_refresh_119, vb_X6_refresh_142, vb_X6_refresh_148, vb_X6_refresh_154, xI_0, xI_1, xI_3, xI_6, xI_7, xI_8, xI_14, xI_36, xI_37, xI_42, xI_46, xI_47, xI_49, xI_50, xI_51, xI_52, xI_61, xI_65, xw_X6_refresh_0, xw_X6_refresh_8, xw_X6_refresh_43, xw_X6_refresh_71, xw_X6_refresh_80, xw_X6_refresh_104, xw_X6_refresh_106, xw_X6_refresh_119, xw_X6_refresh_142, xw_X6_refresh_148, xw_X6_refresh_154, zw_lit, xB_c, xB_s, xB_n, i1_c, j2_c, k1_c, jJ_e, xlg, xls, xla, xpd, ppush, zw_m1, zw_m2, zw_m3, gf_1_8, gf_6_0, gf_6_1, gf_6_2, gf_6_3, gf_6_6, gf_6_7, gf_9_4, gf_9_7, pf_6_6, pf_6_10, pf_6_11, pf_6_130, tg_1_8, tg_6_0, tg_6_1, tg_6_10, tg_6_11, tg_6_2, tg_6_3, tg_6_6, tg_6_7, tg_9_4, tg_9_7, gv_1_8, gv_221_0, gv_221_1, gv_221_2, gv_221_3, gv_221_6, gv_221_7, gv_215_4, gv_215_7, xD1, xD2, xD3, xD4, xD5, xD6, xb1_0] at h
    obtain ⟨m, hm, h⟩ := h
    obtain ⟨H2, g1, g2, g3, g4, g5, m2, hm2, h⟩ := lp_mr0 A hB ht m 0 0 H1 (by omega) (by omega) ci1 (TCf_KF kf1 hT) (by rw [e1]; simp [xp_at]) w1 (fun x x0 x1 => by omega) h
    have e2 := g5.trans e1
    obtain ⟨H', k1, k2, k3, k4, k5⟩ := lp_mr2 A hf ht hB.1 m2 0 0 (offA A, wntA A, fun _ => 0, 0, 0) H2 (by omega) (by omega) g1.1.1.1.symm g1.1.1.2.2.2.2.1.symm (by rw [e2]; simp [xp_at]) (fun x y p0 p1 p2 p3 p4 p5 => ((g3 x p0 p1).2.2 y p2 p3).2 p4 p5) (MI_0 A) ⟨fun x x0 x1 => (g3 x x0 x1).2.1, fun x x0 x1 => (g2 x x0 x1).2, fun x y p0 p1 p2 p3 => ((g3 x p0 p1).2.2 y p2 p3).1, by rw [e2]; simp [xp_at], by rw [e2]; simp [xp_at]⟩ h
    rw [Int.sub_zero] at k1
    have kf := KF_trans kf1 (KF_trans g4 k2)
    refine ⟨none, H', k5, rfl, CI_Z hB g1 (fun c hc => k4 c (by omega) (by omega) (by omega) (by omega)), TCf_KF kf hT, ⟨?_, fun x x0 x1 => ?_, fun x x0 x1 => ?_, k1⟩, fun w => (w q).elim, fun _ => ⟨?_, kf⟩⟩
    · rw [k3 6 (by decide) (by decide), e2]
      simp [xp_at]
    · rw [k4 222 (by decide) (by decide) (by decide) (by decide), k4 (225 + x) (by omega) (by omega) (by omega) (by omega)]
      exact ⟨(g3 x x0 x1).1, fun y y0 y1 => ((g3 x x0 x1).2.2 y y0 y1).2⟩
    · rw [k4 223 (by decide) (by decide) (by decide) (by decide)]
      exact (g2 x x0 x1).1
    · rw [k3 2 (by decide) (by decide), e2]
      simp [xp_at]
  · have h := call_runP 3 vm_X6_refresh h
    have h := xw_top (hd := [43, 106, 119]) 13 xD6_ok xc_X6_refresh xa_X6_refresh (t := 0) rfl h
    simp (maxDischargeDepth := 12) -implicitDefEqProofs [vb_X6_refresh_0, vb_X6_refresh_8, vb_X6_refresh_43, vb_X6_refresh_71, vb_X6_refresh_80, vb_X6_refresh_104, vb_X6_refresh_106, vb_X6_refresh_119, vb_X6_refresh_142, vb_X6_refresh_148, vb_X6_refresh_154, xI_0, xI_1, xI_3, xI_6, xI_7, xI_8, xI_14, xI_36, xI_37, xI_42, xI_46, xI_47, xI_49, xI_50, xI_51, xI_52, xI_61, xI_65, xw_X6_refresh_0, xw_X6_refresh_8, xw_X6_refresh_43, xw_X6_refresh_71, xw_X6_refresh_80, xw_X6_refresh_104, xw_X6_refresh_106, xw_X6_refresh_119, xw_X6_refresh_142, xw_X6_refresh_148, xw_X6_refresh_154, zw_lit, xB_c, xB_s, xB_n, i1_c, j2_c, k1_c, jJ_e, xlg, xls, xla, xpd, ppush, zw_m1, zw_m2, zw_m3, gf_1_8, gf_6_0, gf_6_1, gf_6_2, gf_6_3, gf_6_6, gf_6_7, gf_9_4, gf_9_7, pf_6_6, pf_6_10, pf_6_11, pf_6_130, tg_1_8, tg_6_0, tg_6_1, tg_6_10, tg_6_11, tg_6_2, tg_6_3, tg_6_6, tg_6_7, tg_9_4, tg_9_7, gv_1_8, gv_221_0, gv_221_1, gv_221_2, gv_221_3, gv_221_6, gv_221_7, gv_215_4, gv_215_7, xD1, xD2, xD3, xD4, xD5, xD6, xb1_0, q] at h
    exact ⟨none, H, h, rfl, ci, hT, hM q, fun _ => rfl, fun e => (q e).elim⟩
theorem sp_X6_broughtTo (A : Int → Int) (b : Int) (H : PH) (hb : 0 ≤ b ∧ b < 12) (hM : MCf A H) : SPEC 61 [(2, 221), (0, b)] H (fun r H' => r = some (0, zw (wntA A b - (mtZ A).2.1 b)) ∧ H' = H) := by
  intro E n res h
  have e3 : H 223 b = wntA A b := hM.2.2.1 b hb.1 hb.2
  have e8 : H 298 b = (mtZ A).2.1 b := hM.2.2.2.2.1 b hb.1 hb.2
  have h := call_runP 2 vm_X6_broughtTo h
  have h := xw_top (hd := []) 3 xD6_ok xc_X6_broughtTo xa_X6_broughtTo (t := 0) rfl h
  simp (maxDischargeDepth := 12) -implicitDefEqProofs [vb_X6_broughtTo_0, xI_0, xI_1, xI_15, xI_49, xI_51, xI_62, xw_X6_broughtTo_0, zw_lit, xB_c, xB_s, xB_n, i1_c, j2_c, k1_c, jJ_e, xlg, xls, xla, xpd, ppush, zw_m1, zw_m2, zw_m3, gf_6_4, gf_6_8, tg_6_4, tg_6_8, gv_221_4, gv_221_8, xD1, xD2, xD3, xD4, xD5, xD6, xb1_0, e3, e8] at h
  exact ⟨_, H, h, rfl, rfl⟩
