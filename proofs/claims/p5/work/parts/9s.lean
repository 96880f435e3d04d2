theorem gf_11_1 : gfOK 11 1 = true := by decide +kernel
theorem pf_10_1 : pfOK 10 1 = true := by decide +kernel
def xm_X1_takeItems : List xbT := [(0, vb_X1_takeItems_0, some 14), (14, vb_X1_takeItems_14, some 53), (53, vb_X1_takeItems_53, some 68), (68, vb_X1_takeItems_68, some 83), (83, vb_X1_takeItems_83, some 91), (91, vb_X1_takeItems_91, some 100), (100, vb_X1_takeItems_100, some 106), (106, vb_X1_takeItems_106, some 122), (122, vb_X1_takeItems_122, none)]
theorem xc_X1_takeItems : xOK kd_X1_takeItems xm_X1_takeItems := ⟨ve_X1_takeItems_0, ve_X1_takeItems_14, ve_X1_takeItems_53, ve_X1_takeItems_68, ve_X1_takeItems_83, ve_X1_takeItems_91, ve_X1_takeItems_100, ve_X1_takeItems_106, ve_X1_takeItems_122, trivial⟩
theorem xa_X1_takeItems : xm_X1_takeItems.all (fun q => aOKb q.2.1 && !q.2.1.isEmpty) = true := by decide +kernel
theorem xw_X1_takeItems_0 {E : xE} {res : xR} {N : Nat} {hd : List Nat} {C : xCT} {k : Nat} {L : List Int} {st : List pv} {H : PH} : xW E res N kd_X1_takeItems xm_X1_takeItems hd C (k + 1) 0 L st H = xB (fun t L st H => if t ∈ hd then xJ E res N kd_X1_takeItems t L st H else xW E res N kd_X1_takeItems xm_X1_takeItems hd C k t L st H) (REPR E res) C (some 14) vb_X1_takeItems_0 0 L st H := Eq.trans rfl rfl
theorem xw_X1_takeItems_14 {E : xE} {res : xR} {N : Nat} {hd : List Nat} {C : xCT} {k : Nat} {L : List Int} {st : List pv} {H : PH} : xW E res N kd_X1_takeItems xm_X1_takeItems hd C (k + 1) 14 L st H = xB (fun t L st H => if t ∈ hd then xJ E res N kd_X1_takeItems t L st H else xW E res N kd_X1_takeItems xm_X1_takeItems hd C k t L st H) (REPR E res) C (some 53) vb_X1_takeItems_14 14 L st H := Eq.trans rfl rfl
theorem xw_X1_takeItems_53 {E : xE} {res : xR} {N : Nat} {hd : List Nat} {C : xCT} {k : Nat} {L : List Int} {st : List pv} {H : PH} : xW E res N kd_X1_takeItems xm_X1_takeItems hd C (k + 1) 53 L st H = xB (fun t L st H => if t ∈ hd then xJ E res N kd_X1_takeItems t L st H else xW E res N kd_X1_takeItems xm_X1_takeItems hd C k t L st H) (REPR E res) C (some 68) vb_X1_takeItems_53 53 L st H := Eq.trans rfl rfl
theorem xw_X1_takeItems_68 {E : xE} {res : xR} {N : Nat} {hd : List Nat} {C : xCT} {k : Nat} {L : List Int} {st : List pv} {H : PH} : xW E res N kd_X1_takeItems xm_X1_takeItems hd C (k + 1) 68 L st H = xB (fun t L st H => if t ∈ hd then xJ E res N kd_X1_takeItems t L st H else xW E res N kd_X1_takeItems xm_X1_takeItems hd C k t L st H) (REPR E res) C (some 83) vb_X1_takeItems_68 68 L st H := Eq.trans rfl rfl
theorem xw_X1_takeItems_83 {E : xE} {res : xR} {N : Nat} {hd : List Nat} {C : xCT} {k : Nat} {L : List Int} {st : List pv} {H : PH} : xW E res N kd_X1_takeItems xm_X1_takeItems hd C (k + 1) 83 L st H = xB (fun t L st H => if t ∈ hd then xJ E res N kd_X1_takeItems t L st H else xW E res N kd_X1_takeItems xm_X1_takeItems hd C k t L st H) (REPR E res) C (some 91) vb_X1_takeItems_83 83 L st H := Eq.trans rfl rfl
theorem xw_X1_takeItems_91 {E : xE} {res : xR} {N : Nat} {hd : List Nat} {C : xCT} {k : Nat} {L : List Int} {st : List pv} {H : PH} : xW E res N kd_X1_takeItems xm_X1_takeItems hd C (k + 1) 91 L st H = xB (fun t L st H => if t ∈ hd then xJ E res N kd_X1_takeItems t L st H else xW E res N kd_X1_takeItems xm_X1_takeItems hd C k t L st H) (REPR E res) C (some 100) vb_X1_takeItems_91 91 L st H := Eq.trans rfl rfl
theorem xw_X1_takeItems_100 {E : xE} {res : xR} {N : Nat} {hd : List Nat} {C : xCT} {k : Nat} {L : List Int} {st : List pv} {H : PH} : xW E res N kd_X1_takeItems xm_X1_takeItems hd C (k + 1) 100 L st H = xB (fun t L st H => if t ∈ hd then xJ E res N kd_X1_takeItems t L st H else xW E res N kd_X1_takeItems xm_X1_takeItems hd C k t L st H) (REPR E res) C (some 106) vb_X1_takeItems_100 100 L st H := Eq.trans rfl rfl
theorem xw_X1_takeItems_106 {E : xE} {res : xR} {N : Nat} {hd : List Nat} {C : xCT} {k : Nat} {L : List Int} {st : List pv} {H : PH} : xW E res N kd_X1_takeItems xm_X1_takeItems hd C (k + 1) 106 L st H = xB (fun t L st H => if t ∈ hd then xJ E res N kd_X1_takeItems t L st H else xW E res N kd_X1_takeItems xm_X1_takeItems hd C k t L st H) (REPR E res) C (some 122) vb_X1_takeItems_106 106 L st H := Eq.trans rfl rfl
theorem xw_X1_takeItems_122 {E : xE} {res : xR} {N : Nat} {hd : List Nat} {C : xCT} {k : Nat} {L : List Int} {st : List pv} {H : PH} : xW E res N kd_X1_takeItems xm_X1_takeItems hd C (k + 1) 122 L st H = xB (fun t L st H => if t ∈ hd then xJ E res N kd_X1_takeItems t L st H else xW E res N kd_X1_takeItems xm_X1_takeItems hd C k t L st H) (REPR E res) C (none) vb_X1_takeItems_122 122 L st H := Eq.trans rfl rfl
def xm_X11_text : List xbT := [(0, vb_X11_text_0, some 66), (66, vb_X11_text_66, none)]
theorem xc_X11_text : xOK kd_X11_text xm_X11_text := ⟨ve_X11_text_0, ve_X11_text_66, trivial⟩
theorem xa_X11_text : xm_X11_text.all (fun q => aOKb q.2.1 && !q.2.1.isEmpty) = true := by decide +kernel
theorem xw_X11_text_0 {E : xE} {res : xR} {N : Nat} {hd : List Nat} {C : xCT} {k : Nat} {L : List Int} {st : List pv} {H : PH} : xW E res N kd_X11_text xm_X11_text hd C (k + 1) 0 L st H = xB (fun t L st H => if t ∈ hd then xJ E res N kd_X11_text t L st H else xW E res N kd_X11_text xm_X11_text hd C k t L st H) (REPR E res) C (some 66) vb_X11_text_0 0 L st H := Eq.trans rfl rfl
theorem xw_X11_text_66 {E : xE} {res : xR} {N : Nat} {hd : List Nat} {C : xCT} {k : Nat} {L : List Int} {st : List pv} {H : PH} : xW E res N kd_X11_text xm_X11_text hd C (k + 1) 66 L st H = xB (fun t L st H => if t ∈ hd then xJ E res N kd_X11_text t L st H else xW E res N kd_X11_text xm_X11_text hd C k t L st H) (REPR E res) C (none) vb_X11_text_66 66 L st H := Eq.trans rfl rfl
/-! the class's text -/
theorem sp_X10_rewind (H : PH) : SPEC 94 [(2, 213)] H (fun r H' => r = none ∧ H' = pup (pup H 213 2 0) 213 3 (-1)) := by
  intro E n res h
  have h := call_runP 1 vm_X10_rewind h
  have h := xw_top (hd := []) 3 xD6_ok xc_X10_rewind xa_X10_rewind (t := 0) rfl h
  simp (maxDischargeDepth := 12) -implicitDefEqProofs [vb_X10_rewind_0, xI_0, xI_7, xI_50, xI_65, xw_X10_rewind_0, zw_lit, xB_c, xB_s, xB_n, i1_c, j2_c, k1_c, jJ_e, xlg, xls, xla, xpd, ppush, zw_m1, zw_m2, zw_m3, pf_10_2, pf_10_3, tg_10_2, tg_10_3, xD1, xD2, xD3, xD4, xD5, xD6, xb1_0] at h
  repeat' (first | (refine Or.elim h ?_ ?_ <;> clear h <;> intro h) | (refine And.elim ?_ h; clear h; intro _ h))
  all_goals refine ⟨_, _, h, ?_, rfl⟩
  all_goals (first | rfl | (congr 2; (repeat' split) <;> first | rfl | omega))
set_option maxRecDepth 100000 in
theorem lp_tki (sz : Int) (w : Int → Int) (hw : ∀ i, 0 ≤ i → i < sz → 0 ≤ w i ∧ w i ≤ 255) (A : Int → Int) (cb : Int) {E : xE} {res : xR} : ∀ (n : Nat) (a i : Int) (B : Int → Int) (x y : Int) (H : PH), TP sz w a H → TXr A B H → 0 ≤ i → i ≤ a → RUN E res n kd_X1_takeItems (zget kd_X1_takeItems 14) 14 [1, 213, cb, i, x, y] [] H → ∃ H' : PH, FXt A H H' ∧ ((∃ (m : Nat) (B' : Int → Int) (x' y' : Int), txK sz w m a B B' ∧ TXr A B' H' ∧ 0 ≤ i + m ∧ i + m ≤ 600 ∧ xJ E res n kd_X1_takeItems 106 [1, 213, cb, i + m, x', y'] [] H') ∨ ((∀ m B', ¬ txK sz w m a B B') ∧ REPR E res (some (0, -1)) H' ∧ ∃ B', TXr A B' H')) := by
  intro n
  induction n using Nat.strongRecOn with
  | _ n ih =>
    intro a i B x y H hT hX i0 ia h
    have e2 := hT.2.2.1
    have e1 := hT.1
    have en := TP_nx hT
    have bd := hT.2.2.2
    have i6 : ¬ 600 ≤ i ∨ ¬ a < sz := by omega
    have zi : zw (i + 1) = i + 1 ∨ ¬ a < sz := by
      by_cases q : a < sz
      · exact Or.inl (zw_lit (by omega) (by omega))
      · exact Or.inr q
    by_cases q : a < sz
    · have q' : ¬ sz ≤ a := by omega
      have i6 : i < 600 := by omega
      have i7 : ¬ 600 ≤ i := by omega
      have zi : zw (i + 1) = i + 1 := zw_lit (by omega) (by omega)
      have bad : ¬ itK sz w a B → ∀ m B', ¬ txK sz w m a B B' := fun k m B' t => by
        cases m with
        | zero => have := t.1; omega
        | succ m => exact k t.2.1
      have good : itK sz w a B → ∀ (H2 : PH) (x y : Int), FXt A H H2 → TP sz w (itE sz w a) H2 → TXr A (itR sz w a B) H2 → xJ E res n kd_X1_takeItems 14 [1, 213, cb, i + 1, x, y] [] H2 → ∃ H' : PH, FXt A H H' ∧ ((∃ (m : Nat) (B' : Int → Int) (x' y' : Int), txK sz w m a B B' ∧ TXr A B' H' ∧ 0 ≤ i + m ∧ i + m ≤ 600 ∧ xJ E res n kd_X1_takeItems 106 [1, 213, cb, i + m, x', y'] [] H') ∨ ((∀ m B', ¬ txK sz w m a B B') ∧ REPR E res (some (0, -1)) H' ∧ ∃ B', TXr A B' H')) := by
        rintro k H2 x y p t r ⟨m, hm, g⟩
        have gt := itE_gt (sz := sz) (w := w) (a := a)
        obtain ⟨H', g1, g2⟩ := ih m hm _ (i + 1) _ x y H2 t r (by omega) (by omega) g
        refine ⟨H', FXt_trans p g1, ?_⟩
        rcases g2 with ⟨m', B', x', y', k1, k2, k3, k4, k5⟩ | ⟨k1, k2, k3⟩
        · refine Or.inl ⟨m' + 1, B', x', y', ⟨q, k, k1⟩, k2, by omega, by omega, ?_⟩
          have k5 := xJ_up k5 (Nat.le_of_lt hm)
          rw [show i + 1 + (m' : Int) = i + ((m' + 1 : Nat) : Int) by omega] at k5
          exact k5
        · refine Or.inr ⟨fun m' B' t => ?_, k2, k3⟩
          cases m' with
          | zero => have := t.1; omega
          | succ m' => exact k1 m' B' t.2.2
      by_cases c1 : nxF sz w a = 98
      · have iE : itE sz w a = blE sz w a := if_pos c1
        have iR : itR sz w a B = blR sz w a B := if_pos c1
        have h := xw_top (hd := [14, 106]) 11 xD6_ok xc_X1_takeItems xa_X1_takeItems (t := 14) rfl h
        simp (maxDischargeDepth := 12) -implicitDefEqProofs [vb_X1_takeItems_0, vb_X1_takeItems_14, vb_X1_takeItems_53, vb_X1_takeItems_68, vb_X1_takeItems_83, vb_X1_takeItems_91, vb_X1_takeItems_100, vb_X1_takeItems_106, vb_X1_takeItems_122, xI_0, xI_1, xI_3, xI_6, xI_7, xI_8, xI_9, xI_36, xI_38, xI_43, xI_44, xI_46, xI_49, xI_61, xI_62, xw_X1_takeItems_0, xw_X1_takeItems_14, xw_X1_takeItems_53, xw_X1_takeItems_68, xw_X1_takeItems_83, xw_X1_takeItems_91, xw_X1_takeItems_100, xw_X1_takeItems_106, xw_X1_takeItems_122, zw_lit, xB_c, xB_s, xB_n, i1_c, j2_c, k1_c, jJ_e, xlg, xls, xla, xpd, ppush, zw_m1, zw_m2, zw_m3, gf_1_0, gf_8_3, gf_10_1, gf_10_2, tg_10_1, tg_10_2, tg_1_0, tg_8_3, gv_1_0, gv_2_3, gv_213_1, gv_213_2, xD1, xD2, xD3, xD4, xD5, xD6, xb1_0, e1, e2, en, q, q', c1, i6, i7] at h
        obtain ⟨r, H2, ⟨p, g⟩, h⟩ := xc_use h (sp_X1_takeBill sz a w A B H hT q hw hX)
        rcases g with ⟨k, rfl, t, r⟩ | ⟨k, rfl, t⟩
        · simp (maxDischargeDepth := 12) -implicitDefEqProofs [vb_X1_takeItems_0, vb_X1_takeItems_14, vb_X1_takeItems_53, vb_X1_takeItems_68, vb_X1_takeItems_83, vb_X1_takeItems_91, vb_X1_takeItems_100, vb_X1_takeItems_106, vb_X1_takeItems_122, xI_0, xI_1, xI_3, xI_6, xI_7, xI_8, xI_9, xI_36, xI_38, xI_43, xI_44, xI_46, xI_49, xI_61, xI_62, xw_X1_takeItems_0, xw_X1_takeItems_14, xw_X1_takeItems_53, xw_X1_takeItems_68, xw_X1_takeItems_83, xw_X1_takeItems_91, xw_X1_takeItems_100, xw_X1_takeItems_106, xw_X1_takeItems_122, zw_lit, xB_c, xB_s, xB_n, i1_c, j2_c, k1_c, jJ_e, xlg, xls, xla, xpd, ppush, zw_m1, zw_m2, zw_m3, gf_1_0, gf_8_3, gf_10_1, gf_10_2, tg_10_1, tg_10_2, tg_1_0, tg_8_3, gv_1_0, gv_2_3, gv_213_1, gv_213_2, xD1, xD2, xD3, xD4, xD5, xD6, xb1_0, zi] at h
          exact good (Or.inl ⟨c1, k⟩) H2 _ _ p (by rw [iE]; exact t) (by rw [iR]; exact r) h
        · simp (maxDischargeDepth := 12) -implicitDefEqProofs [vb_X1_takeItems_0, vb_X1_takeItems_14, vb_X1_takeItems_53, vb_X1_takeItems_68, vb_X1_takeItems_83, vb_X1_takeItems_91, vb_X1_takeItems_100, vb_X1_takeItems_106, vb_X1_takeItems_122, xI_0, xI_1, xI_3, xI_6, xI_7, xI_8, xI_9, xI_36, xI_38, xI_43, xI_44, xI_46, xI_49, xI_61, xI_62, xw_X1_takeItems_0, xw_X1_takeItems_14, xw_X1_takeItems_53, xw_X1_takeItems_68, xw_X1_takeItems_83, xw_X1_takeItems_91, xw_X1_takeItems_100, xw_X1_takeItems_106, xw_X1_takeItems_122, zw_lit, xB_c, xB_s, xB_n, i1_c, j2_c, k1_c, jJ_e, xlg, xls, xla, xpd, ppush, zw_m1, zw_m2, zw_m3, gf_1_0, gf_8_3, gf_10_1, gf_10_2, tg_10_1, tg_10_2, tg_1_0, tg_8_3, gv_1_0, gv_2_3, gv_213_1, gv_213_2, xD1, xD2, xD3, xD4, xD5, xD6, xb1_0] at h
          exact ⟨H2, p, Or.inr ⟨bad (fun i => by
            rcases i with i | i | i
            · exact k i.2
            · have := i.1; omega
            · have := i.1; omega), h, B, t⟩⟩
      · by_cases c2 : nxF sz w a = 126
        · have iE : itE sz w a = a + 4 := by unfold itE; rw [if_neg c1, if_pos c2]
          have iR : itR sz w a B = cpR sz w a B := by unfold itR; rw [if_neg c1, if_pos c2]
          have h := xw_top (hd := [14, 106]) 11 xD6_ok xc_X1_takeItems xa_X1_takeItems (t := 14) rfl h
          simp (maxDischargeDepth := 12) -implicitDefEqProofs [vb_X1_takeItems_0, vb_X1_takeItems_14, vb_X1_takeItems_53, vb_X1_takeItems_68, vb_X1_takeItems_83, vb_X1_takeItems_91, vb_X1_takeItems_100, vb_X1_takeItems_106, vb_X1_takeItems_122, xI_0, xI_1, xI_3, xI_6, xI_7, xI_8, xI_9, xI_36, xI_38, xI_43, xI_44, xI_46, xI_49, xI_61, xI_62, xw_X1_takeItems_0, xw_X1_takeItems_14, xw_X1_takeItems_53, xw_X1_takeItems_68, xw_X1_takeItems_83, xw_X1_takeItems_91, xw_X1_takeItems_100, xw_X1_takeItems_106, xw_X1_takeItems_122, zw_lit, xB_c, xB_s, xB_n, i1_c, j2_c, k1_c, jJ_e, xlg, xls, xla, xpd, ppush, zw_m1, zw_m2, zw_m3, gf_1_0, gf_8_3, gf_10_1, gf_10_2, tg_10_1, tg_10_2, tg_1_0, tg_8_3, gv_1_0, gv_2_3, gv_213_1, gv_213_2, xD1, xD2, xD3, xD4, xD5, xD6, xb1_0, e1, e2, en, q, q', c1, c2, i6, i7] at h
          obtain ⟨r, H2, ⟨p, g⟩, h⟩ := xc_use h (sp_X1_takeCouple sz a w A B H hT q hw hX)
          rcases g with ⟨k, rfl, t, r⟩ | ⟨k, rfl, t⟩
          · simp (maxDischargeDepth := 12) -implicitDefEqProofs [vb_X1_takeItems_0, vb_X1_takeItems_14, vb_X1_takeItems_53, vb_X1_takeItems_68, vb_X1_takeItems_83, vb_X1_takeItems_91, vb_X1_takeItems_100, vb_X1_takeItems_106, vb_X1_takeItems_122, xI_0, xI_1, xI_3, xI_6, xI_7, xI_8, xI_9, xI_36, xI_38, xI_43, xI_44, xI_46, xI_49, xI_61, xI_62, xw_X1_takeItems_0, xw_X1_takeItems_14, xw_X1_takeItems_53, xw_X1_takeItems_68, xw_X1_takeItems_83, xw_X1_takeItems_91, xw_X1_takeItems_100, xw_X1_takeItems_106, xw_X1_takeItems_122, zw_lit, xB_c, xB_s, xB_n, i1_c, j2_c, k1_c, jJ_e, xlg, xls, xla, xpd, ppush, zw_m1, zw_m2, zw_m3, gf_1_0, gf_8_3, gf_10_1, gf_10_2, tg_10_1, tg_10_2, tg_1_0, tg_8_3, gv_1_0, gv_2_3, gv_213_1, gv_213_2, xD1, xD2, xD3, xD4, xD5, xD6, xb1_0, zi] at h
            exact good (Or.inr (Or.inl ⟨c2, k⟩)) H2 _ _ p (by rw [iE]; exact t) (by rw [iR]; exact r) h
          · simp (maxDischargeDepth := 12) -implicitDefEqProofs [vb_X1_takeItems_0, vb_X1_takeItems_14, vb_X1_takeItems_53, vb_X1_takeItems_68, vb_X1_takeItems_83, vb_X1_takeItems_91, vb_X1_takeItems_100, vb_X1_takeItems_106, vb_X1_takeItems_122, xI_0, xI_1, xI_3, xI_6, xI_7, xI_8, xI_9, xI_36, xI_38, xI_43, xI_44, xI_46, xI_49, xI_61, xI_62, xw_X1_takeItems_0, xw_X1_takeItems_14, xw_X1_takeItems_53, xw_X1_takeItems_68, xw_X1_takeItems_83, xw_X1_takeItems_91, xw_X1_takeItems_100, xw_X1_takeItems_106, xw_X1_takeItems_122, zw_lit, xB_c, xB_s, xB_n, i1_c, j2_c, k1_c, jJ_e, xlg, xls, xla, xpd, ppush, zw_m1, zw_m2, zw_m3, gf_1_0, gf_8_3, gf_10_1, gf_10_2, tg_10_1, tg_10_2, tg_1_0, tg_8_3, gv_1_0, gv_2_3, gv_213_1, gv_213_2, xD1, xD2, xD3, xD4, xD5, xD6, xb1_0] at h
            exact ⟨H2, p, Or.inr ⟨bad (fun i => by
              rcases i with i | i | i
              · exact c1 i.1
              · exact k i.2
              · have := i.1; omega), h, B, t⟩⟩
        · by_cases c3 : nxF sz w a = 116
          · have iE : itE sz w a = lnE sz w a := by unfold itE; rw [if_neg c1, if_neg c2]
            have iR : itR sz w a B = lnR sz w a B := by unfold itR; rw [if_neg c1, if_neg c2]
            have h := xw_top (hd := [14, 106]) 11 xD6_ok xc_X1_takeItems xa_X1_takeItems (t := 14) rfl h
            simp (maxDischargeDepth := 12) -implicitDefEqProofs [vb_X1_takeItems_0, vb_X1_takeItems_14, vb_X1_takeItems_53, vb_X1_takeItems_68, vb_X1_takeItems_83, vb_X1_takeItems_91, vb_X1_takeItems_100, vb_X1_takeItems_106, vb_X1_takeItems_122, xI_0, xI_1, xI_3, xI_6, xI_7, xI_8, xI_9, xI_36, xI_38, xI_43, xI_44, xI_46, xI_49, xI_61, xI_62, xw_X1_takeItems_0, xw_X1_takeItems_14, xw_X1_takeItems_53, xw_X1_takeItems_68, xw_X1_takeItems_83, xw_X1_takeItems_91, xw_X1_takeItems_100, xw_X1_takeItems_106, xw_X1_takeItems_122, zw_lit, xB_c, xB_s, xB_n, i1_c, j2_c, k1_c, jJ_e, xlg, xls, xla, xpd, ppush, zw_m1, zw_m2, zw_m3, gf_1_0, gf_8_3, gf_10_1, gf_10_2, tg_10_1, tg_10_2, tg_1_0, tg_8_3, gv_1_0, gv_2_3, gv_213_1, gv_213_2, xD1, xD2, xD3, xD4, xD5, xD6, xb1_0, e1, e2, en, q, q', c1, c2, c3, i6, i7] at h
            obtain ⟨r, H2, ⟨p, g⟩, h⟩ := xc_use h (sp_X1_takeLine sz a w A B H hT q hw hX)
            rcases g with ⟨k, rfl, t, r⟩ | ⟨k, rfl, t⟩
            · simp (maxDischargeDepth := 12) -implicitDefEqProofs [vb_X1_takeItems_0, vb_X1_takeItems_14, vb_X1_takeItems_53, vb_X1_takeItems_68, vb_X1_takeItems_83, vb_X1_takeItems_91, vb_X1_takeItems_100, vb_X1_takeItems_106, vb_X1_takeItems_122, xI_0, xI_1, xI_3, xI_6, xI_7, xI_8, xI_9, xI_36, xI_38, xI_43, xI_44, xI_46, xI_49, xI_61, xI_62, xw_X1_takeItems_0, xw_X1_takeItems_14, xw_X1_takeItems_53, xw_X1_takeItems_68, xw_X1_takeItems_83, xw_X1_takeItems_91, xw_X1_takeItems_100, xw_X1_takeItems_106, xw_X1_takeItems_122, zw_lit, xB_c, xB_s, xB_n, i1_c, j2_c, k1_c, jJ_e, xlg, xls, xla, xpd, ppush, zw_m1, zw_m2, zw_m3, gf_1_0, gf_8_3, gf_10_1, gf_10_2, tg_10_1, tg_10_2, tg_1_0, tg_8_3, gv_1_0, gv_2_3, gv_213_1, gv_213_2, xD1, xD2, xD3, xD4, xD5, xD6, xb1_0, zi] at h
              exact good (Or.inr (Or.inr ⟨c3, k⟩)) H2 _ _ p (by rw [iE]; exact t) (by rw [iR]; exact r) h
            · simp (maxDischargeDepth := 12) -implicitDefEqProofs [vb_X1_takeItems_0, vb_X1_takeItems_14, vb_X1_takeItems_53, vb_X1_takeItems_68, vb_X1_takeItems_83, vb_X1_takeItems_91, vb_X1_takeItems_100, vb_X1_takeItems_106, vb_X1_takeItems_122, xI_0, xI_1, xI_3, xI_6, xI_7, xI_8, xI_9, xI_36, xI_38, xI_43, xI_44, xI_46, xI_49, xI_61, xI_62, xw_X1_takeItems_0, xw_X1_takeItems_14, xw_X1_takeItems_53, xw_X1_takeItems_68, xw_X1_takeItems_83, xw_X1_takeItems_91, xw_X1_takeItems_100, xw_X1_takeItems_106, xw_X1_takeItems_122, zw_lit, xB_c, xB_s, xB_n, i1_c, j2_c, k1_c, jJ_e, xlg, xls, xla, xpd, ppush, zw_m1, zw_m2, zw_m3, gf_1_0, gf_8_3, gf_10_1, gf_10_2, tg_10_1, tg_10_2, tg_1_0, tg_8_3, gv_1_0, gv_2_3, gv_213_1, gv_213_2, xD1, xD2, xD3, xD4, xD5, xD6, xb1_0] at h
              exact ⟨H2, p, Or.inr ⟨bad (fun i => by
                rcases i with i | i | i
                · exact c1 i.1
                · exact c2 i.1
                · exact k i.2), h, B, t⟩⟩
          · have h := xw_top (hd := [14, 106]) 11 xD6_ok xc_X1_takeItems xa_X1_takeItems (t := 14) rfl h
            simp (maxDischargeDepth := 12) -implicitDefEqProofs [vb_X1_takeItems_0, vb_X1_takeItems_14, vb_X1_takeItems_53, vb_X1_takeItems_68, vb_X1_takeItems_83, vb_X1_takeItems_91, vb_X1_takeItems_100, vb_X1_takeItems_106, vb_X1_takeItems_122, xI_0, xI_1, xI_3, xI_6, xI_7, xI_8, xI_9, xI_36, xI_38, xI_43, xI_44, xI_46, xI_49, xI_61, xI_62, xw_X1_takeItems_0, xw_X1_takeItems_14, xw_X1_takeItems_53, xw_X1_takeItems_68, xw_X1_takeItems_83, xw_X1_takeItems_91, xw_X1_takeItems_100, xw_X1_takeItems_106, xw_X1_takeItems_122, zw_lit, xB_c, xB_s, xB_n, i1_c, j2_c, k1_c, jJ_e, xlg, xls, xla, xpd, ppush, zw_m1, zw_m2, zw_m3, gf_1_0, gf_8_3, gf_10_1, gf_10_2, tg_10_1, tg_10_2, tg_1_0, tg_8_3, gv_1_0, gv_2_3, gv_213_1, gv_213_2, xD1, xD2, xD3, xD4, xD5, xD6, xb1_0, e1, e2, en, q, q', c1, c2, c3, i6, i7] at h
            obtain ⟨r, H2, ⟨rfl, rfl⟩, h⟩ := xc_use h (sp_X10_fail a H)
            simp (maxDischargeDepth := 12) -implicitDefEqProofs [vb_X1_takeItems_0, vb_X1_takeItems_14, vb_X1_takeItems_53, vb_X1_takeItems_68, vb_X1_takeItems_83, vb_X1_takeItems_91, vb_X1_takeItems_100, vb_X1_takeItems_106, vb_X1_takeItems_122, xI_0, xI_1, xI_3, xI_6, xI_7, xI_8, xI_9, xI_36, xI_38, xI_43, xI_44, xI_46, xI_49, xI_61, xI_62, xw_X1_takeItems_0, xw_X1_takeItems_14, xw_X1_takeItems_53, xw_X1_takeItems_68, xw_X1_takeItems_83, xw_X1_takeItems_91, xw_X1_takeItems_100, xw_X1_takeItems_106, xw_X1_takeItems_122, zw_lit, xB_c, xB_s, xB_n, i1_c, j2_c, k1_c, jJ_e, xlg, xls, xla, xpd, ppush, zw_m1, zw_m2, zw_m3, gf_1_0, gf_8_3, gf_10_1, gf_10_2, tg_10_1, tg_10_2, tg_1_0, tg_8_3, gv_1_0, gv_2_3, gv_213_1, gv_213_2, xD1, xD2, xD3, xD4, xD5, xD6, xb1_0] at h
            exact ⟨_, FXt_PF (PF_up (Or.inr rfl)), Or.inr ⟨bad (fun i => by
              rcases i with i | i | i
              · exact c1 i.1
              · exact c2 i.1
              · exact c3 i.1), h, B, TXr_PF hX (PF_up (Or.inr rfl))⟩⟩
    · have q' : sz ≤ a := by omega
      have ea : a = sz := by omega
      have lt0 : ¬ sz < sz := by omega
      have le0 : sz ≤ sz := Int.le_refl _
      by_cases i6 : i < 600
      · have i7 : ¬ 600 ≤ i := by omega
        have h := xw_top (hd := [14, 106]) 11 xD6_ok xc_X1_takeItems xa_X1_takeItems (t := 14) rfl h
        simp (maxDischargeDepth := 12) -implicitDefEqProofs [vb_X1_takeItems_0, vb_X1_takeItems_14, vb_X1_takeItems_53, vb_X1_takeItems_68, vb_X1_takeItems_83, vb_X1_takeItems_91, vb_X1_takeItems_100, vb_X1_takeItems_106, vb_X1_takeItems_122, xI_0, xI_1, xI_3, xI_6, xI_7, xI_8, xI_9, xI_36, xI_38, xI_43, xI_44, xI_46, xI_49, xI_61, xI_62, xw_X1_takeItems_0, xw_X1_takeItems_14, xw_X1_takeItems_53, xw_X1_takeItems_68, xw_X1_takeItems_83, xw_X1_takeItems_91, xw_X1_takeItems_100, xw_X1_takeItems_106, xw_X1_takeItems_122, zw_lit, xB_c, xB_s, xB_n, i1_c, j2_c, k1_c, jJ_e, xlg, xls, xla, xpd, ppush, zw_m1, zw_m2, zw_m3, gf_1_0, gf_8_3, gf_10_1, gf_10_2, tg_10_1, tg_10_2, tg_1_0, tg_8_3, gv_1_0, gv_2_3, gv_213_1, gv_213_2, xD1, xD2, xD3, xD4, xD5, xD6, xb1_0, e1, e2, en, q, q', i6, i7] at h
        refine ⟨H, FXt_refl, Or.inl ⟨0, B, x, y, ⟨q', rfl⟩, hX, by omega, by omega, ?_⟩⟩
        rw [show i + ((0 : Nat) : Int) = i by omega]
        exact h
      · have i7 : 600 ≤ i := by omega
        have h := xw_top (hd := [14, 106]) 11 xD6_ok xc_X1_takeItems xa_X1_takeItems (t := 14) rfl h
        simp (maxDischargeDepth := 12) -implicitDefEqProofs [vb_X1_takeItems_0, vb_X1_takeItems_14, vb_X1_takeItems_53, vb_X1_takeItems_68, vb_X1_takeItems_83, vb_X1_takeItems_91, vb_X1_takeItems_100, vb_X1_takeItems_106, vb_X1_takeItems_122, xI_0, xI_1, xI_3, xI_6, xI_7, xI_8, xI_9, xI_36, xI_38, xI_43, xI_44, xI_46, xI_49, xI_61, xI_62, xw_X1_takeItems_0, xw_X1_takeItems_14, xw_X1_takeItems_53, xw_X1_takeItems_68, xw_X1_takeItems_83, xw_X1_takeItems_91, xw_X1_takeItems_100, xw_X1_takeItems_106, xw_X1_takeItems_122, zw_lit, xB_c, xB_s, xB_n, i1_c, j2_c, k1_c, jJ_e, xlg, xls, xla, xpd, ppush, zw_m1, zw_m2, zw_m3, gf_1_0, gf_8_3, gf_10_1, gf_10_2, tg_10_1, tg_10_2, tg_1_0, tg_8_3, gv_1_0, gv_2_3, gv_213_1, gv_213_2, xD1, xD2, xD3, xD4, xD5, xD6, xb1_0, e1, e2, en, q, q', i6, i7] at h
        refine ⟨H, FXt_refl, Or.inl ⟨0, B, x, y, ⟨q', rfl⟩, hX, by omega, by omega, ?_⟩⟩
        rw [show i + ((0 : Nat) : Int) = i by omega]
        exact h
/-- lines that measured nothing say nothing wrong -/
theorem TXr_k0 {A B : Int → Int} {H H' : PH} (h : TXr A B H) (k1 : ∀ d, ¬ KL d → H' d = H d) (k2 : ∀ q, KL q → ∀ i, ¬ i = 4 → H' q i = H q i) (k3 : ∀ j, 0 ≤ j → j < H 1 4 → H' (H 47 j) 4 = min (H (H 47 j) 4) 0) : CI H' B ∧ CPr H' B := by
  obtain ⟨a, b, c, d, l, e, f, g, i⟩ := h
  have nk : ∀ x : Int, x ≤ 92 → ¬ KL x := fun x hx w => by have := KL_in w; omega
  have e47 : H' 47 = H 47 := k1 47 (nk 47 (by decide))
  have d2 := d.2.2.1
  refine ⟨⟨CR_eq d c a (fun x x1 _ _ _ _ => k1 x (nk x x1)) (fun q hq i hi => k2 q hq i hi) (fun w hw => ⟨k1 w (KW_no hw).2.2.2.2.1, k1 _ (KW_no hw).2.2.2.2.2.1⟩), fun k k0 k4 => ?_, ?_⟩, ?_⟩
  · have e0 := e k k0 k4
    have eB : B 2 = H 1 4 := a.1.2.2.1
    rw [e47, k3 k k0 (by omega)]
    exact ⟨by omega, fun b b0 b1 => by omega⟩
  · unfold LDi
    rw [e47]
    exact c
  · unfold CPr mtC at b ⊢
    rw [k1 42 (nk 42 (by decide)), k1 43 (nk 43 (by decide))]
    exact b
theorem FXt_0 {A : Int → Int} {H H' : PH} (h2 : 0 ≤ A 2) (h : FXt A H H') : FXt (fun _ => 0) H H' := ⟨fun d h1 h3 => h.1 d h1 (fun k k0 k1 => h3 k (by show (0 : Int) ≤ k; omega) k1), h.2⟩
set_option maxRecDepth 100000 in
/-- what was told comes: all of it or nothing -/
theorem sp_X1_takeItems (sz : Int) (w : Int → Int) (A : Int → Int) (H : PH) (h1 : H 213 1 = sz) (hW : H 214 = w) (hs : 0 ≤ sz ∧ sz ≤ 600) (hw : ∀ i, 0 ≤ i → i < sz → 0 ≤ w i ∧ w i ≤ 255) (ci : CI H A) (cp : CPr H A) (hB : MB A) (h11 : 0 ≤ A 11 ∧ A 11 ≤ 60) : SPEC 6 [(2, 1), (2, 213)] H (fun r H' => FXt (fun _ => 0) H H' ∧ ((∃ (m : Nat) (B' : Int → Int), txK sz w m 0 A B' ∧ r = some (0, (m : Int)) ∧ CI H' B' ∧ CPr H' B' ∧ EXT A B') ∨ ((∀ m B', ¬ txK sz w m 0 A B') ∧ r = some (0, -1) ∧ ∃ B', TXr A B' H'))) := by
  intro E n res h
  have e23 : H 2 3 = A 1 := ci.1.1.2.1.symm
  have x0 : TXr A A H := ⟨ci.1, cp, ci.2.2, hB, h11, fun k k0 k1 => (ci.2.1 k k0 k1).1, fun _ => ci.2.1, EXT_refl A, hB⟩
  have h := call_runP 6 vm_X1_takeItems h
  have h := xw_top (hd := [14, 106]) 11 xD6_ok xc_X1_takeItems xa_X1_takeItems (t := 0) rfl h
  simp (maxDischargeDepth := 12) -implicitDefEqProofs [vb_X1_takeItems_0, vb_X1_takeItems_14, vb_X1_takeItems_53, vb_X1_takeItems_68, vb_X1_takeItems_83, vb_X1_takeItems_91, vb_X1_takeItems_100, vb_X1_takeItems_106, vb_X1_takeItems_122, xI_0, xI_1, xI_3, xI_6, xI_7, xI_8, xI_9, xI_36, xI_38, xI_43, xI_44, xI_46, xI_49, xI_61, xI_62, xw_X1_takeItems_0, xw_X1_takeItems_14, xw_X1_takeItems_53, xw_X1_takeItems_68, xw_X1_takeItems_83, xw_X1_takeItems_91, xw_X1_takeItems_100, xw_X1_takeItems_106, xw_X1_takeItems_122, zw_lit, xB_c, xB_s, xB_n, i1_c, j2_c, k1_c, jJ_e, xlg, xls, xla, xpd, ppush, zw_m1, zw_m2, zw_m3, gf_1_0, gf_8_3, gf_10_1, gf_10_2, tg_10_1, tg_10_2, tg_1_0, tg_8_3, gv_1_0, gv_2_3, gv_213_1, gv_213_2, xD1, xD2, xD3, xD4, xD5, xD6, xb1_0] at h
  obtain ⟨r, H1, ⟨rfl, rfl⟩, h⟩ := xc_use h (sp_X10_rewind H)
  simp (maxDischargeDepth := 12) -implicitDefEqProofs [vb_X1_takeItems_0, vb_X1_takeItems_14, vb_X1_takeItems_53, vb_X1_takeItems_68, vb_X1_takeItems_83, vb_X1_takeItems_91, vb_X1_takeItems_100, vb_X1_takeItems_106, vb_X1_takeItems_122, xI_0, xI_1, xI_3, xI_6, xI_7, xI_8, xI_9, xI_36, xI_38, xI_43, xI_44, xI_46, xI_49, xI_61, xI_62, xw_X1_takeItems_0, xw_X1_takeItems_14, xw_X1_takeItems_53, xw_X1_takeItems_68, xw_X1_takeItems_83, xw_X1_takeItems_91, xw_X1_takeItems_100, xw_X1_takeItems_106, xw_X1_takeItems_122, zw_lit, xB_c, xB_s, xB_n, i1_c, j2_c, k1_c, jJ_e, xlg, xls, xla, xpd, ppush, zw_m1, zw_m2, zw_m3, gf_1_0, gf_8_3, gf_10_1, gf_10_2, tg_10_1, tg_10_2, tg_1_0, tg_8_3, gv_1_0, gv_2_3, gv_213_1, gv_213_2, xD1, xD2, xD3, xD4, xD5, xD6, xb1_0] at h
  obtain ⟨m, hm, h⟩ := h
  have p0 : PF H (pup (pup H 213 2 0) 213 3 (-1)) := PF_trans (PF_up (Or.inl rfl)) (PF_up (Or.inr rfl))
  obtain ⟨H1, g1, g2⟩ := lp_tki sz w hw A _ m 0 0 A _ _ _ ⟨by rw [xp_at, if_neg (by decide), xp_at, if_neg (by decide)]; exact h1, by rw [xp_ne (by decide), xp_ne (by decide)]; exact hW, by rw [xp_at, if_neg (by decide), xp_at, if_pos rfl], by omega, by omega, by omega⟩ (TXr_PF x0 p0) (by omega) (by omega) h
  have f1 := FXt_0 hB.2.2.1.1 (FXt_trans (FXt_PF p0) g1)
  rcases g2 with ⟨t, B', x', y', k1, k2, k3, k4, m2, hm2, k5⟩ | ⟨k1, k2, k3⟩
  · have c1 : H1 2 3 = B' 1 := k2.1.1.2.1.symm
    rw [Int.zero_add] at k5
    by_cases q : B' 1 = A 1
    · have k5 := xw_top (hd := [14, 106]) 11 xD6_ok xc_X1_takeItems xa_X1_takeItems (t := 106) rfl k5
      simp (maxDischargeDepth := 12) -implicitDefEqProofs [vb_X1_takeItems_0, vb_X1_takeItems_14, vb_X1_takeItems_53, vb_X1_takeItems_68, vb_X1_takeItems_83, vb_X1_takeItems_91, vb_X1_takeItems_100, vb_X1_takeItems_106, vb_X1_takeItems_122, xI_0, xI_1, xI_3, xI_6, xI_7, xI_8, xI_9, xI_36, xI_38, xI_43, xI_44, xI_46, xI_49, xI_61, xI_62, xw_X1_takeItems_0, xw_X1_takeItems_14, xw_X1_takeItems_53, xw_X1_takeItems_68, xw_X1_takeItems_83, xw_X1_takeItems_91, xw_X1_takeItems_100, xw_X1_takeItems_106, xw_X1_takeItems_122, zw_lit, xB_c, xB_s, xB_n, i1_c, j2_c, k1_c, jJ_e, xlg, xls, xla, xpd, ppush, zw_m1, zw_m2, zw_m3, gf_1_0, gf_8_3, gf_10_1, gf_10_2, tg_10_1, tg_10_2, tg_1_0, tg_8_3, gv_1_0, gv_2_3, gv_213_1, gv_213_2, xD1, xD2, xD3, xD4, xD5, xD6, xb1_0, e23, c1, q] at k5
      exact ⟨_, H1, k5, f1, Or.inl ⟨t, B', k1, rfl, ⟨k2.1, k2.2.2.2.2.2.2.1 q, k2.2.2.1⟩, k2.2.1, k2.2.2.2.2.2.2.2.1⟩⟩
    · have k5 := xw_top (hd := [14, 106]) 11 xD6_ok xc_X1_takeItems xa_X1_takeItems (t := 106) rfl k5
      simp (maxDischargeDepth := 12) -implicitDefEqProofs [vb_X1_takeItems_0, vb_X1_takeItems_14, vb_X1_takeItems_53, vb_X1_takeItems_68, vb_X1_takeItems_83, vb_X1_takeItems_91, vb_X1_takeItems_100, vb_X1_takeItems_106, vb_X1_takeItems_122, xI_0, xI_1, xI_3, xI_6, xI_7, xI_8, xI_9, xI_36, xI_38, xI_43, xI_44, xI_46, xI_49, xI_61, xI_62, xw_X1_takeItems_0, xw_X1_takeItems_14, xw_X1_takeItems_53, xw_X1_takeItems_68, xw_X1_takeItems_83, xw_X1_takeItems_91, xw_X1_takeItems_100, xw_X1_takeItems_106, xw_X1_takeItems_122, zw_lit, xB_c, xB_s, xB_n, i1_c, j2_c, k1_c, jJ_e, xlg, xls, xla, xpd, ppush, zw_m1, zw_m2, zw_m3, gf_1_0, gf_8_3, gf_10_1, gf_10_2, tg_10_1, tg_10_2, tg_1_0, tg_8_3, gv_1_0, gv_2_3, gv_213_1, gv_213_2, xD1, xD2, xD3, xD4, xD5, xD6, xb1_0, e23, c1, q] at k5
      have b2 := k2.2.2.2.1.2.2.1
      have e4 : B' 2 = H1 1 4 := k2.1.1.2.2.1
      obtain ⟨r, H2, ⟨rfl, j1, j2, j3, j4⟩, h⟩ := xc_use k5 (sp_X1_keepMeasured 0 H1 k2.2.2.1 (by omega))
      obtain ⟨u1, u2⟩ := TXr_k0 k2 j1 j2 j3
      refine ⟨_, H2, h, FXt_trans f1 ?_, Or.inl ⟨t, B', k1, rfl, u1, u2, k2.2.2.2.2.2.2.2.1⟩⟩
      have nk : ∀ x : Int, x ≤ 92 ∨ x = 213 → ¬ KL x := fun x hx w => by have := KL_in w; omega
      exact ⟨fun d d1 d2 => j4 d (fun j k0 k1 => d2 j k0 (by omega)), fun i _ _ => by rw [j1 1 (nk 1 (by decide))], fun i _ => by rw [j1 2 (nk 2 (by decide))], fun i _ _ => by rw [j1 213 (nk 213 (by decide))], j1 47 (nk 47 (by decide))⟩
  · exact ⟨_, H1, k2, f1, Or.inr ⟨k1, rfl, k3⟩⟩
