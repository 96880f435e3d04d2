theorem gf_12_8 : gfOK 12 8 = true := by decide +kernel
theorem pf_12_4 : pfOK 12 4 = true := by decide +kernel
def xm_X12_text : List xbT := [(0, vb_X12_text_0, some 7), (7, vb_X12_text_7, some 32), (32, vb_X12_text_32, some 52), (52, vb_X12_text_52, some 98), (98, vb_X12_text_98, some 104), (104, vb_X12_text_104, some 111), (111, vb_X12_text_111, some 139), (139, vb_X12_text_139, none)]
theorem xc_X12_text : xOK kd_X12_text xm_X12_text := ⟨ve_X12_text_0, ve_X12_text_7, ve_X12_text_32, ve_X12_text_52, ve_X12_text_98, ve_X12_text_104, ve_X12_text_111, ve_X12_text_139, trivial⟩
theorem xa_X12_text : xm_X12_text.all (fun q => aOKb q.2.1 && !q.2.1.isEmpty) = true := by decide +kernel
theorem xw_X12_text_0 {E : xE} {res : xR} {N : Nat} {hd : List Nat} {C : xCT} {k : Nat} {L : List Int} {st : List pv} {H : PH} : xW E res N kd_X12_text xm_X12_text hd C (k + 1) 0 L st H = xB (fun t L st H => if t ∈ hd then xJ E res N kd_X12_text t L st H else xW E res N kd_X12_text xm_X12_text hd C k t L st H) (REPR E res) C (some 7) vb_X12_text_0 0 L st H := Eq.trans rfl rfl
theorem xw_X12_text_7 {E : xE} {res : xR} {N : Nat} {hd : List Nat} {C : xCT} {k : Nat} {L : List Int} {st : List pv} {H : PH} : xW E res N kd_X12_text xm_X12_text hd C (k + 1) 7 L st H = xB (fun t L st H => if t ∈ hd then xJ E res N kd_X12_text t L st H else xW E res N kd_X12_text xm_X12_text hd C k t L st H) (REPR E res) C (some 32) vb_X12_text_7 7 L st H := Eq.trans rfl rfl
theorem xw_X12_text_32 {E : xE} {res : xR} {N : Nat} {hd : List Nat} {C : xCT} {k : Nat} {L : List Int} {st : List pv} {H : PH} : xW E res N kd_X12_text xm_X12_text hd C (k + 1) 32 L st H = xB (fun t L st H => if t ∈ hd then xJ E res N kd_X12_text t L st H else xW E res N kd_X12_text xm_X12_text hd C k t L st H) (REPR E res) C (some 52) vb_X12_text_32 32 L st H := Eq.trans rfl rfl
theorem xw_X12_text_52 {E : xE} {res : xR} {N : Nat} {hd : List Nat} {C : xCT} {k : Nat} {L : List Int} {st : List pv} {H : PH} : xW E res N kd_X12_text xm_X12_text hd C (k + 1) 52 L st H = xB (fun t L st H => if t ∈ hd then xJ E res N kd_X12_text t L st H else xW E res N kd_X12_text xm_X12_text hd C k t L st H) (REPR E res) C (some 98) vb_X12_text_52 52 L st H := Eq.trans rfl rfl
theorem xw_X12_text_98 {E : xE} {res : xR} {N : Nat} {hd : List Nat} {C : xCT} {k : Nat} {L : List Int} {st : List pv} {H : PH} : xW E res N kd_X12_text xm_X12_text hd C (k + 1) 98 L st H = xB (fun t L st H => if t ∈ hd then xJ E res N kd_X12_text t L st H else xW E res N kd_X12_text xm_X12_text hd C k t L st H) (REPR E res) C (some 104) vb_X12_text_98 98 L st H := Eq.trans rfl rfl
theorem xw_X12_text_104 {E : xE} {res : xR} {N : Nat} {hd : List Nat} {C : xCT} {k : Nat} {L : List Int} {st : List pv} {H : PH} : xW E res N kd_X12_text xm_X12_text hd C (k + 1) 104 L st H = xB (fun t L st H => if t ∈ hd then xJ E res N kd_X12_text t L st H else xW E res N kd_X12_text xm_X12_text hd C k t L st H) (REPR E res) C (some 111) vb_X12_text_104 104 L st H := Eq.trans rfl rfl
theorem xw_X12_text_111 {E : xE} {res : xR} {N : Nat} {hd : List Nat} {C : xCT} {k : Nat} {L : List Int} {st : List pv} {H : PH} : xW E res N kd_X12_text xm_X12_text hd C (k + 1) 111 L st H = xB (fun t L st H => if t ∈ hd then xJ E res N kd_X12_text t L st H else xW E res N kd_X12_text xm_X12_text hd C k t L st H) (REPR E res) C (some 139) vb_X12_text_111 111 L st H := Eq.trans rfl rfl
theorem xw_X12_text_139 {E : xE} {res : xR} {N : Nat} {hd : List Nat} {C : xCT} {k : Nat} {L : List Int} {st : List pv} {H : PH} : xW E res N kd_X12_text xm_X12_text hd C (k + 1) 139 L st H = xB (fun t L st H => if t ∈ hd then xJ E res N kd_X12_text t L st H else xW E res N kd_X12_text xm_X12_text hd C k t L st H) (REPR E res) C (none) vb_X12_text_139 139 L st H := Eq.trans rfl rfl
theorem txK_MB {sz : Int} {w : Int → Int} (hw : ∀ i, 0 ≤ i → i < sz → 0 ≤ w i ∧ w i ≤ 255) : ∀ (n : Nat) (a : Int) (B B' : Int → Int), 0 ≤ a → MB B → txK sz w n a B B' → MB B' ∧ cnI B' = cnI B + n ∧ B 0 ≤ B' 0 ∧ B 1 ≤ B' 1 ∧ B 2 ≤ B' 2
  | 0, a, B, B', _, hB, h => by
    obtain ⟨_, rfl⟩ := h
    exact ⟨hB, by omega, Int.le_refl _, Int.le_refl _, Int.le_refl _⟩
  | n + 1, a, B, B', ha, hB, h => by
    obtain ⟨h0, h1, h2⟩ := h
    have c := itR_c ⟨hB.1, hB.2.1, hB.2.2.1⟩ h1
    obtain ⟨g1, g2, g3, g4, g5⟩ := txK_MB hw n _ _ _ (by have := itE_gt (sz := sz) (w := w) (a := a); omega) (MB_it hw ha hB h1) h2
    exact ⟨g1, by omega, by omega, by omega, by omega⟩
theorem KPr_eq {R R' : Int → Int → Int} {n : Int} {H : PH} (h : KPr R n H) (e : ∀ j k, 0 ≤ j → j < n → 0 ≤ k → k < 1124 → R j k = R' j k) : KPr R' n H := fun j k j0 j1 k0 k1 => (h j k j0 j1 k0 k1).trans (e j k j0 j1 k0 k1)
theorem KPr_cell {R : Int → Int → Int} {n : Int} {H H' : PH} (h : KPr R n H) (e : H' 592 = H 592) : KPr R n H' := fun j k j0 j1 k0 k1 => by rw [e]; exact h j k j0 j1 k0 k1
theorem sp_X12_countItems (H : PH) : SPEC 181 [(2, 590)] H (fun r H' => r = some (0, zw (zw (H 591 0 + H 591 1) + H 591 2)) ∧ H' = H) := by
  intro E n res h
  have h := call_runP 1 vm_X12_countItems h
  have h := xw_top (hd := []) 3 xD6_ok xc_X12_countItems xa_X12_countItems (t := 0) rfl h
  simp (maxDischargeDepth := 12) -implicitDefEqProofs [vb_X12_countItems_0, xI_0, xI_7, xI_14, xI_49, xI_51, xI_62, xw_X12_countItems_0, zw_lit, xB_c, xB_s, xB_n, i1_c, j2_c, k1_c, jJ_e, xlg, xls, xla, xpd, ppush, zw_m1, zw_m2, zw_m3, gf_12_0, tg_12_0, gv_590_0, xD1, xD2, xD3, xD4, xD5, xD6, xb1_0] at h
  repeat' (first | (refine Or.elim h ?_ ?_ <;> clear h <;> intro h) | (refine And.elim ?_ h; clear h; intro _ h))
  all_goals refine ⟨_, _, h, ?_, rfl⟩
  all_goals (first | rfl | (congr 2; (repeat' split) <;> first | rfl | omega))
theorem lp_t1 (cw x y z : Int) (H0 : PH) {E : xE} {res : xR} : ∀ (n : Nat) (k : Int) (H : PH), 0 ≤ k → k ≤ 1124 → (∀ j, 0 ≤ j → j < k → H 594 j = H0 591 j) → (∀ c, ¬ c = 594 → H c = H0 c) → RUN E res n kd_X12_text (zget kd_X12_text 7) 7 [590, cw, k, x, y, z] [] H → ∃ H' : PH, (∀ j, 0 ≤ j → j < 1124 → H' 594 j = H0 591 j) ∧ (∀ c, ¬ c = 594 → H' c = H0 c) ∧ xJ E res n kd_X12_text 32 [590, cw, 1124, x, y, z] [] H' := by
  intro n
  induction n using Nat.strongRecOn with
  | _ n ih =>
    intro k H k0 k1 hR hF h
    have z1 : zw (k + 1) = k + 1 := zw_lit (by omega) (by omega)
    have h := xw_top (hd := [7, 32, 52, 98, 111]) 10 xD6_ok xc_X12_text xa_X12_text (t := 7) rfl h
    simp (maxDischargeDepth := 12) -implicitDefEqProofs [vb_X12_text_0, vb_X12_text_7, vb_X12_text_32, vb_X12_text_52, vb_X12_text_98, vb_X12_text_104, vb_X12_text_111, vb_X12_text_139, xI_0, xI_1, xI_3, xI_6, xI_7, xI_9, xI_15, xI_36, xI_38, xI_46, xI_49, xI_50, xI_51, xI_52, xI_61, xI_62, xw_X12_text_0, xw_X12_text_7, xw_X12_text_32, xw_X12_text_52, xw_X12_text_98, xw_X12_text_104, xw_X12_text_111, xw_X12_text_139, zw_lit, xB_c, xB_s, xB_n, i1_c, j2_c, k1_c, jJ_e, xlg, xls, xla, xpd, ppush, zw_m1, zw_m2, zw_m3, gf_12_0, gf_12_8, pf_12_4, tg_12_0, tg_12_4, tg_12_8, gv_590_0, gv_590_8, xD1, xD2, xD3, xD4, xD5, xD6, xb1_0, z1] at h
    rcases h with ⟨c, h⟩ | ⟨c, m, hm, h⟩
    · have e : k = 1124 := by omega
      subst e
      exact ⟨H, hR, hF, h⟩
    · obtain ⟨H', g1, g2, g3⟩ := ih m hm (k + 1) _ (by omega) (by omega) (fun j j0 j1 => by
        rw [xp_at]
        by_cases e : j = k
        · rw [if_pos e, e, hF 591 (by decide)]
        · rw [if_neg e]
          exact hR j j0 (by omega)) (fun c hc => by rw [xp_ne hc]; exact hF c hc) h
      exact ⟨H', g1, g2, xJ_up g3 (by omega)⟩
theorem lp_t2 (cw x y : Int) (H0 : PH) {E : xE} {res : xR} : ∀ (n : Nat) (k z : Int) (H : PH), 0 ≤ k → k ≤ 1124 → (∀ j, 0 ≤ j → j < k → H 591 j = H0 594 j ∧ H 594 j = H0 591 j) → (∀ j, k ≤ j → H 591 j = H0 591 j ∧ H 594 j = H0 594 j) → (∀ c, ¬ c = 591 → ¬ c = 594 → H c = H0 c) → RUN E res n kd_X12_text (zget kd_X12_text 52) 52 [590, cw, x, y, k, z] [] H → ∃ (H' : PH) (z' : Int), (∀ j, 0 ≤ j → j < 1124 → H' 591 j = H0 594 j ∧ H' 594 j = H0 591 j) ∧ (∀ c, ¬ c = 591 → ¬ c = 594 → H' c = H0 c) ∧ xJ E res n kd_X12_text 98 [590, cw, x, y, 1124, z'] [] H' := by
  intro n
  induction n using Nat.strongRecOn with
  | _ n ih =>
    intro k z H k0 k1 hR hS hF h
    have z1 : zw (k + 1) = k + 1 := zw_lit (by omega) (by omega)
    obtain ⟨s1, s2⟩ := hS k (Int.le_refl _)
    have h := xw_top (hd := [7, 32, 52, 98, 111]) 10 xD6_ok xc_X12_text xa_X12_text (t := 52) rfl h
    simp (maxDischargeDepth := 12) -implicitDefEqProofs [vb_X12_text_0, vb_X12_text_7, vb_X12_text_32, vb_X12_text_52, vb_X12_text_98, vb_X12_text_104, vb_X12_text_111, vb_X12_text_139, xI_0, xI_1, xI_3, xI_6, xI_7, xI_9, xI_15, xI_36, xI_38, xI_46, xI_49, xI_50, xI_51, xI_52, xI_61, xI_62, xw_X12_text_0, xw_X12_text_7, xw_X12_text_32, xw_X12_text_52, xw_X12_text_98, xw_X12_text_104, xw_X12_text_111, xw_X12_text_139, zw_lit, xB_c, xB_s, xB_n, i1_c, j2_c, k1_c, jJ_e, xlg, xls, xla, xpd, ppush, zw_m1, zw_m2, zw_m3, gf_12_0, gf_12_8, pf_12_4, tg_12_0, tg_12_4, tg_12_8, gv_590_0, gv_590_8, xD1, xD2, xD3, xD4, xD5, xD6, xb1_0, z1, xp_ne, xp_at] at h
    rcases h with ⟨c, h⟩ | ⟨c, m, hm, h⟩
    · have e : k = 1124 := by omega
      subst e
      exact ⟨H, z, hR, hF, h⟩
    · obtain ⟨H', z', g1, g2, g3⟩ := ih m hm (k + 1) _ _ (by omega) (by omega) (fun j j0 j1 => by
        rw [xp_at, xp_ne (by decide), xp_at]
        by_cases e : j = k
        · rw [if_pos e, if_pos e, e]
          exact ⟨s2, s1⟩
        · rw [if_neg e, if_neg e]
          exact hR j j0 (by omega)) (fun j j1 => by
        rw [xp_at, xp_ne (by decide), xp_at, if_neg (by omega), if_neg (by omega)]
        exact hS j (by omega)) (fun c c1 c2 => by rw [xp_ne c2, xp_ne c1]; exact hF c c1 c2) h
      exact ⟨H', z', g1, g2, xJ_up g3 (by omega)⟩
theorem lp_t3 (cw x y z : Int) (H0 : PH) {E : xE} {res : xR} : ∀ (n : Nat) (k : Int) (H : PH), 0 ≤ k → k ≤ 1124 → (∀ j, 0 ≤ j → j < k → H 591 j = H0 594 j) → (∀ c, ¬ c = 591 → H c = H0 c) → RUN E res n kd_X12_text (zget kd_X12_text 111) 111 [590, cw, x, y, k, z] [] H → ∃ (H' : PH), (∀ j, 0 ≤ j → j < 1124 → H' 591 j = H0 594 j) ∧ (∀ c, ¬ c = 591 → H' c = H0 c) ∧ REPR E res (some (0, y)) H' := by
  intro n
  induction n using Nat.strongRecOn with
  | _ n ih =>
    intro k H k0 k1 hR hF h
    have z1 : zw (k + 1) = k + 1 := zw_lit (by omega) (by omega)
    have h := xw_top (hd := [7, 32, 52, 98, 111]) 10 xD6_ok xc_X12_text xa_X12_text (t := 111) rfl h
    simp (maxDischargeDepth := 12) -implicitDefEqProofs [vb_X12_text_0, vb_X12_text_7, vb_X12_text_32, vb_X12_text_52, vb_X12_text_98, vb_X12_text_104, vb_X12_text_111, vb_X12_text_139, xI_0, xI_1, xI_3, xI_6, xI_7, xI_9, xI_15, xI_36, xI_38, xI_46, xI_49, xI_50, xI_51, xI_52, xI_61, xI_62, xw_X12_text_0, xw_X12_text_7, xw_X12_text_32, xw_X12_text_52, xw_X12_text_98, xw_X12_text_104, xw_X12_text_111, xw_X12_text_139, zw_lit, xB_c, xB_s, xB_n, i1_c, j2_c, k1_c, jJ_e, xlg, xls, xla, xpd, ppush, zw_m1, zw_m2, zw_m3, gf_12_0, gf_12_8, pf_12_4, tg_12_0, tg_12_4, tg_12_8, gv_590_0, gv_590_8, xD1, xD2, xD3, xD4, xD5, xD6, xb1_0, z1] at h
    rcases h with ⟨c, h3⟩ | ⟨c, m, hm, h⟩
    · have e : k = 1124 := by omega
      subst e
      exact ⟨H, hR, hF, h3⟩
    · exact ih m hm (k + 1) _ (by omega) (by omega) (fun j j0 j1 => by
        rw [xp_at]
        by_cases e : j = k
        · rw [if_pos e, e, hF 594 (by decide)]
        · rw [if_neg e]
          exact hR j j0 (by omega)) (fun c hc => by rw [xp_ne hc]; exact hF c hc) h
/-- what the model's text leaves as it is -/
def FTm (H H' : PH) : Prop := (∀ c, ¬ c = 590 → ¬ c = 591 → ¬ c = 592 → ¬ c = 594 → H' c = H c) ∧ (∀ i, ¬ i = 2 → ¬ i = 4 → ¬ i = 5 → ¬ i = 6 → ¬ i = 7 → H' 590 i = H 590 i) ∧ H' 590 4 = 0
/-- the kept rows with one more -/
def kpU (R : Int → Int → Int) (n : Int) (A : Int → Int) : Int → Int → Int := fun j => if j = min 20 (n + 1) - 1 then A else if n = 20 then R (j + 1) else R j
set_option maxRecDepth 100000 in
theorem sp_X12_text (sz : Int) (w : Int → Int) (A : Int → Int) (R : Int → Int → Int) (n : Int) (H : PH) (h4 : H 590 4 = sz) (hs : 0 ≤ sz ∧ sz ≤ 600) (hw : ∀ i, 0 ≤ i → i < sz → 0 ≤ w i ∧ w i ≤ 255) (hb : ∀ i, 0 ≤ i → i < sz → q2 (· &&& ·) (H 593 i) 255 = w i) (hR : H 591 = A) (hB : MB A) (hn : 0 ≤ n ∧ n ≤ 20) (h2 : H 590 2 = n) (hK : KPr R n H) : SPEC 182 [(2, 590)] H (fun r H' => FTm H H' ∧ ((∃ (m : Nat) (B' : Int → Int), txK sz w m 0 A B' ∧ r = some (0, (m : Int)) ∧ (∀ j, 0 ≤ j → j < 1124 → H' 591 j = B' j) ∧ H' 590 2 = min 20 (n + 1) ∧ KPr (kpU R n A) (min 20 (n + 1)) H') ∨ ((∀ m B', ¬ txK sz w m 0 A B') ∧ r = some (0, -1) ∧ (∀ j, 0 ≤ j → j < 1124 → H' 591 j = A j) ∧ H' 590 2 = n ∧ KPr R n H'))) := by
  intro E N res h
  obtain ⟨m0, m1, m2, -⟩ := id hB
  have h := call_runP 6 vm_X12_text h
  have h := xw_top (hd := [7, 32, 52, 98, 111]) 10 xD6_ok xc_X12_text xa_X12_text (t := 0) rfl h
  simp (maxDischargeDepth := 12) -implicitDefEqProofs [vb_X12_text_0, vb_X12_text_7, vb_X12_text_32, vb_X12_text_52, vb_X12_text_98, vb_X12_text_104, vb_X12_text_111, vb_X12_text_139, xI_0, xI_1, xI_3, xI_6, xI_7, xI_9, xI_15, xI_36, xI_38, xI_46, xI_49, xI_50, xI_51, xI_52, xI_61, xI_62, xw_X12_text_0, xw_X12_text_7, xw_X12_text_32, xw_X12_text_52, xw_X12_text_98, xw_X12_text_104, xw_X12_text_111, xw_X12_text_139, zw_lit, xB_c, xB_s, xB_n, i1_c, j2_c, k1_c, jJ_e, xlg, xls, xla, xpd, ppush, zw_m1, zw_m2, zw_m3, gf_12_0, gf_12_8, pf_12_4, tg_12_0, tg_12_4, tg_12_8, gv_590_0, gv_590_8, xD1, xD2, xD3, xD4, xD5, xD6, xb1_0] at h
  obtain ⟨r, H2, ⟨rfl, e9⟩, h⟩ := xc_use h (sp_X12_countItems H)
  rw [e9] at h
  have c1 : zw (zw (H 591 0 + H 591 1) + H 591 2) = cnI A := by
    rw [hR, zw_lit (x := A 0 + A 1) (by omega) (by omega), zw_lit (by omega) (by omega)]
    rfl
  rw [c1] at h
  simp (maxDischargeDepth := 12) -implicitDefEqProofs [vb_X12_text_0, vb_X12_text_7, vb_X12_text_32, vb_X12_text_52, vb_X12_text_98, vb_X12_text_104, vb_X12_text_111, vb_X12_text_139, xI_0, xI_1, xI_3, xI_6, xI_7, xI_9, xI_15, xI_36, xI_38, xI_46, xI_49, xI_50, xI_51, xI_52, xI_61, xI_62, xw_X12_text_0, xw_X12_text_7, xw_X12_text_32, xw_X12_text_52, xw_X12_text_98, xw_X12_text_104, xw_X12_text_111, xw_X12_text_139, zw_lit, xB_c, xB_s, xB_n, i1_c, j2_c, k1_c, jJ_e, xlg, xls, xla, xpd, ppush, zw_m1, zw_m2, zw_m3, gf_12_0, gf_12_8, pf_12_4, tg_12_0, tg_12_4, tg_12_8, gv_590_0, gv_590_8, xD1, xD2, xD3, xD4, xD5, xD6, xb1_0] at h
  obtain ⟨m, hm, h⟩ := h
  obtain ⟨H1, a1, a2, h⟩ := lp_t1 (cnI A) 0 0 0 H m 0 H (by omega) (by omega) (fun j j0 j1 => by omega) (fun _ _ => rfl) h
  obtain ⟨m3, hm3, h⟩ := h
  have h := xw_top (hd := [7, 32, 52, 98, 111]) 10 xD6_ok xc_X12_text xa_X12_text (t := 32) rfl h
  simp (maxDischargeDepth := 12) -implicitDefEqProofs [vb_X12_text_0, vb_X12_text_7, vb_X12_text_32, vb_X12_text_52, vb_X12_text_98, vb_X12_text_104, vb_X12_text_111, vb_X12_text_139, xI_0, xI_1, xI_3, xI_6, xI_7, xI_9, xI_15, xI_36, xI_38, xI_46, xI_49, xI_50, xI_51, xI_52, xI_61, xI_62, xw_X12_text_0, xw_X12_text_7, xw_X12_text_32, xw_X12_text_52, xw_X12_text_98, xw_X12_text_104, xw_X12_text_111, xw_X12_text_139, zw_lit, xB_c, xB_s, xB_n, i1_c, j2_c, k1_c, jJ_e, xlg, xls, xla, xpd, ppush, zw_m1, zw_m2, zw_m3, gf_12_0, gf_12_8, pf_12_4, tg_12_0, tg_12_4, tg_12_8, gv_590_0, gv_590_8, xD1, xD2, xD3, xD4, xD5, xD6, xb1_0] at h
  obtain ⟨r, H2, ⟨p2, g2⟩, h⟩ := xc_use h (sp_X12_readText sz w A H1 (by rw [a2 590 (by decide)]; exact h4) hs hw (fun i i0 i1 => by rw [a2 593 (by decide)]; exact hb i i0 i1) (by rw [a2 591 (by decide)]; exact hR) hB)
  have b4 : ∀ j, 0 ≤ j → j < 1124 → H2 594 j = A j := fun j j0 j1 => by
    rw [p2.1 594 (by decide) (by decide), a1 j j0 j1, hR]
  have b592 : H2 592 = H 592 := by rw [p2.1 592 (by decide) (by decide), a2 592 (by decide)]
  have b2 : H2 590 2 = n := by rw [p2.2 2 (by decide) (by decide) (by decide), a2 590 (by decide)]; exact h2
  have fr : (∀ c, ¬ c = 590 → ¬ c = 591 → ¬ c = 592 → ¬ c = 594 → H2 c = H c) ∧ (∀ i, ¬ i = 5 → ¬ i = 6 → ¬ i = 7 → H2 590 i = H 590 i) := ⟨fun c c0 c1 c2 c3 => by rw [p2.1 c c0 c1, a2 c c3], fun i i5 i6 i7 => by rw [p2.2 i i5 i6 i7, a2 590 (by decide)]⟩
  rcases g2 with ⟨mm, B', t, rfl, r2⟩ | ⟨t, rfl⟩
  · simp (maxDischargeDepth := 12) -implicitDefEqProofs [vb_X12_text_0, vb_X12_text_7, vb_X12_text_32, vb_X12_text_52, vb_X12_text_98, vb_X12_text_104, vb_X12_text_111, vb_X12_text_139, xI_0, xI_1, xI_3, xI_6, xI_7, xI_9, xI_15, xI_36, xI_38, xI_46, xI_49, xI_50, xI_51, xI_52, xI_61, xI_62, xw_X12_text_0, xw_X12_text_7, xw_X12_text_32, xw_X12_text_52, xw_X12_text_98, xw_X12_text_104, xw_X12_text_111, xw_X12_text_139, zw_lit, xB_c, xB_s, xB_n, i1_c, j2_c, k1_c, jJ_e, xlg, xls, xla, xpd, ppush, zw_m1, zw_m2, zw_m3, gf_12_0, gf_12_8, pf_12_4, tg_12_0, tg_12_4, tg_12_8, gv_590_0, gv_590_8, xD1, xD2, xD3, xD4, xD5, xD6, xb1_0] at h
    obtain ⟨r, H3, ⟨rfl, e9⟩, h⟩ := xc_use h (sp_X12_countItems _)
    rw [e9] at h
    obtain ⟨k1, k2, -, -, -⟩ := txK_MB hw mm 0 A B' (Int.le_refl _) hB t
    obtain ⟨n0, n1, n2, -⟩ := id k1
    have ci : cnI A = A 0 + A 1 + A 2 := rfl
    have ci' : cnI B' = B' 0 + B' 1 + B' 2 := rfl
    have c2 : zw (zw (zw (pup H2 590 4 0 591 0 + pup H2 590 4 0 591 1) + pup H2 590 4 0 591 2) - cnI A) = mm := by
      rw [xp_ne (by decide), r2, zw_lit (x := B' 0 + B' 1) (by omega) (by omega), zw_lit (x := B' 0 + B' 1 + B' 2) (by omega) (by omega), zw_lit (by omega) (by omega)]
      omega
    simp (maxDischargeDepth := 12) -implicitDefEqProofs [vb_X12_text_0, vb_X12_text_7, vb_X12_text_32, vb_X12_text_52, vb_X12_text_98, vb_X12_text_104, vb_X12_text_111, vb_X12_text_139, xI_0, xI_1, xI_3, xI_6, xI_7, xI_9, xI_15, xI_36, xI_38, xI_46, xI_49, xI_50, xI_51, xI_52, xI_61, xI_62, xw_X12_text_0, xw_X12_text_7, xw_X12_text_32, xw_X12_text_52, xw_X12_text_98, xw_X12_text_104, xw_X12_text_111, xw_X12_text_139, zw_lit, xB_c, xB_s, xB_n, i1_c, j2_c, k1_c, jJ_e, xlg, xls, xla, xpd, ppush, zw_m1, zw_m2, zw_m3, gf_12_0, gf_12_8, pf_12_4, tg_12_0, tg_12_4, tg_12_8, gv_590_0, gv_590_8, xD1, xD2, xD3, xD4, xD5, xD6, xb1_0, c2] at h
    obtain ⟨m4, hm4, h⟩ := h
    obtain ⟨H4, z', d1, d2, h⟩ := lp_t2 (cnI A) 1 mm _ m4 0 0 _ (by omega) (by omega) (fun j j0 j1 => by omega) (fun _ _ => ⟨rfl, rfl⟩) (fun _ _ _ => rfl) h
    obtain ⟨m5, hm5, h⟩ := h
    have h := xw_top (hd := [7, 32, 52, 98, 111]) 10 xD6_ok xc_X12_text xa_X12_text (t := 98) rfl h
    simp (maxDischargeDepth := 12) -implicitDefEqProofs [vb_X12_text_0, vb_X12_text_7, vb_X12_text_32, vb_X12_text_52, vb_X12_text_98, vb_X12_text_104, vb_X12_text_111, vb_X12_text_139, xI_0, xI_1, xI_3, xI_6, xI_7, xI_9, xI_15, xI_36, xI_38, xI_46, xI_49, xI_50, xI_51, xI_52, xI_61, xI_62, xw_X12_text_0, xw_X12_text_7, xw_X12_text_32, xw_X12_text_52, xw_X12_text_98, xw_X12_text_104, xw_X12_text_111, xw_X12_text_139, zw_lit, xB_c, xB_s, xB_n, i1_c, j2_c, k1_c, jJ_e, xlg, xls, xla, xpd, ppush, zw_m1, zw_m2, zw_m3, gf_12_0, gf_12_8, pf_12_4, tg_12_0, tg_12_4, tg_12_8, gv_590_0, gv_590_8, xD1, xD2, xD3, xD4, xD5, xD6, xb1_0] at h
    have e2 : H4 590 2 = n := by rw [d2 590 (by decide) (by decide), xp_at, if_neg (by decide)]; exact b2
    obtain ⟨r, H5, ⟨rfl, f1, f2, f3⟩, h⟩ := xc_use h (sp_X12_deed R n H4 hn e2 (KPr_cell hK (by rw [d2 592 (by decide) (by decide), xp_ne (by decide), b592])))
    simp (maxDischargeDepth := 12) -implicitDefEqProofs [vb_X12_text_0, vb_X12_text_7, vb_X12_text_32, vb_X12_text_52, vb_X12_text_98, vb_X12_text_104, vb_X12_text_111, vb_X12_text_139, xI_0, xI_1, xI_3, xI_6, xI_7, xI_9, xI_15, xI_36, xI_38, xI_46, xI_49, xI_50, xI_51, xI_52, xI_61, xI_62, xw_X12_text_0, xw_X12_text_7, xw_X12_text_32, xw_X12_text_52, xw_X12_text_98, xw_X12_text_104, xw_X12_text_111, xw_X12_text_139, zw_lit, xB_c, xB_s, xB_n, i1_c, j2_c, k1_c, jJ_e, xlg, xls, xla, xpd, ppush, zw_m1, zw_m2, zw_m3, gf_12_0, gf_12_8, pf_12_4, tg_12_0, tg_12_4, tg_12_8, gv_590_0, gv_590_8, xD1, xD2, xD3, xD4, xD5, xD6, xb1_0] at h
    obtain ⟨m6, hm6, h⟩ := h
    obtain ⟨H6, j1, j2, h⟩ := lp_t3 (cnI A) 1 mm z' _ m6 0 _ (by omega) (by omega) (fun j j0 j1 => by omega) (fun _ _ => rfl) h
    refine ⟨_, H6, h, ⟨fun c c0 c1 c2 c3 => ?_, fun i i2 i4 i5 i6 i7 => ?_, ?_⟩, Or.inl ⟨mm, B', t, rfl, fun j j0 j1' => ?_, ?_, ?_⟩⟩
    · rw [j2 c c1, f1.1 c c0 c2, d2 c c1 c3, xp_ne c0]
      exact fr.1 c c0 c1 c2 c3
    · rw [j2 590 (by decide), f1.2 i i2, d2 590 (by decide) (by decide), xp_at, if_neg i4]
      exact fr.2 i i5 i6 i7
    · rw [j2 590 (by decide), f1.2 4 (by decide), d2 590 (by decide) (by decide), xp_at, if_pos rfl]
    · rw [j1 j j0 j1', f1.1 594 (by decide) (by decide), (d1 j j0 j1').2, xp_ne (by decide), r2]
    · rw [j2 590 (by decide)]
      exact f2
    · refine KPr_cell (KPr_eq f3 (fun j k j0 j1 k0 k1 => ?_)) (j2 592 (by decide))
      unfold kpU
      by_cases e : j = min 20 (n + 1) - 1
      · rw [if_pos e, if_pos e, (d1 k k0 k1).1, xp_ne (by decide)]
        exact b4 k k0 k1
      · rw [if_neg e, if_neg e]
  · simp (maxDischargeDepth := 12) -implicitDefEqProofs [vb_X12_text_0, vb_X12_text_7, vb_X12_text_32, vb_X12_text_52, vb_X12_text_98, vb_X12_text_104, vb_X12_text_111, vb_X12_text_139, xI_0, xI_1, xI_3, xI_6, xI_7, xI_9, xI_15, xI_36, xI_38, xI_46, xI_49, xI_50, xI_51, xI_52, xI_61, xI_62, xw_X12_text_0, xw_X12_text_7, xw_X12_text_32, xw_X12_text_52, xw_X12_text_98, xw_X12_text_104, xw_X12_text_111, xw_X12_text_139, zw_lit, xB_c, xB_s, xB_n, i1_c, j2_c, k1_c, jJ_e, xlg, xls, xla, xpd, ppush, zw_m1, zw_m2, zw_m3, gf_12_0, gf_12_8, pf_12_4, tg_12_0, tg_12_4, tg_12_8, gv_590_0, gv_590_8, xD1, xD2, xD3, xD4, xD5, xD6, xb1_0] at h
    obtain ⟨r, H3, ⟨rfl, e9⟩, h⟩ := xc_use h (sp_X12_countItems _)
    rw [e9] at h
    simp (maxDischargeDepth := 12) -implicitDefEqProofs [vb_X12_text_0, vb_X12_text_7, vb_X12_text_32, vb_X12_text_52, vb_X12_text_98, vb_X12_text_104, vb_X12_text_111, vb_X12_text_139, xI_0, xI_1, xI_3, xI_6, xI_7, xI_9, xI_15, xI_36, xI_38, xI_46, xI_49, xI_50, xI_51, xI_52, xI_61, xI_62, xw_X12_text_0, xw_X12_text_7, xw_X12_text_32, xw_X12_text_52, xw_X12_text_98, xw_X12_text_104, xw_X12_text_111, xw_X12_text_139, zw_lit, xB_c, xB_s, xB_n, i1_c, j2_c, k1_c, jJ_e, xlg, xls, xla, xpd, ppush, zw_m1, zw_m2, zw_m3, gf_12_0, gf_12_8, pf_12_4, tg_12_0, tg_12_4, tg_12_8, gv_590_0, gv_590_8, xD1, xD2, xD3, xD4, xD5, xD6, xb1_0] at h
    obtain ⟨m4, hm4, h⟩ := h
    obtain ⟨H4, z', d1, d2, h⟩ := lp_t2 (cnI A) 0 _ _ m4 0 0 _ (by omega) (by omega) (fun j j0 j1 => by omega) (fun _ _ => ⟨rfl, rfl⟩) (fun _ _ _ => rfl) h
    obtain ⟨m5, hm5, h⟩ := h
    have h := xw_top (hd := [7, 32, 52, 98, 111]) 10 xD6_ok xc_X12_text xa_X12_text (t := 98) rfl h
    simp (maxDischargeDepth := 12) -implicitDefEqProofs [vb_X12_text_0, vb_X12_text_7, vb_X12_text_32, vb_X12_text_52, vb_X12_text_98, vb_X12_text_104, vb_X12_text_111, vb_X12_text_139, xI_0, xI_1, xI_3, xI_6, xI_7, xI_9, xI_15, xI_36, xI_38, xI_46, xI_49, xI_50, xI_51, xI_52, xI_61, xI_62, xw_X12_text_0, xw_X12_text_7, xw_X12_text_32, xw_X12_text_52, xw_X12_text_98, xw_X12_text_104, xw_X12_text_111, xw_X12_text_139, zw_lit, xB_c, xB_s, xB_n, i1_c, j2_c, k1_c, jJ_e, xlg, xls, xla, xpd, ppush, zw_m1, zw_m2, zw_m3, gf_12_0, gf_12_8, pf_12_4, tg_12_0, tg_12_4, tg_12_8, gv_590_0, gv_590_8, xD1, xD2, xD3, xD4, xD5, xD6, xb1_0] at h
    refine ⟨_, H4, h, ⟨fun c c0 c1 c2 c3 => ?_, fun i i2 i4 i5 i6 i7 => ?_, ?_⟩, Or.inr ⟨t, rfl, fun j j0 j1' => ?_, ?_, KPr_cell hK (by rw [d2 592 (by decide) (by decide), xp_ne (by decide), b592])⟩⟩
    · rw [d2 c c1 c3, xp_ne c0]
      exact fr.1 c c0 c1 c2 c3
    · rw [d2 590 (by decide) (by decide), xp_at, if_neg i4]
      exact fr.2 i i5 i6 i7
    · rw [d2 590 (by decide) (by decide), xp_at, if_pos rfl]
    · rw [(d1 j j0 j1').1, xp_ne (by decide)]
      exact b4 j j0 j1'
    · rw [d2 590 (by decide) (by decide), xp_at, if_neg (by decide)]
      exact b2
