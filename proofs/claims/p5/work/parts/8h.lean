theorem nrF_0 (f : Int → Int) (k : Nat) (b x y : Int) : nrF f (k + 1) b (0, x, y) = nrF f (k + 1) b (0, 0, 0) := by
  have e : ∀ x y : Int, nrS f b (0, x, y) = (1, b, f b) := by
    intro x y
    unfold nrS
    simp
  unfold nrF
  rw [e x y, e 0 0]
def nrZ (A : Int → Int) (l s : Int) : nS := nrF (apB A l s) (A 0).toNat 0 (0, 0, 0)
def rdA (A : Int → Int) (l s : Int) : Int := if (nrZ A l s).1 = 0 ∨ A 3 < (nrZ A l s).2.2 then -3 else if 1 < (nrZ A l s).1 then -2 else (nrZ A l s).2.1
def rdL (A : Int → Int) (k : Int) : Int := rdA A (404 + 12 * k + 3) (404 + 12 * k + 4)
def lapA (A : Int → Int) (k b : Int) : Int := apB A (404 + 12 * k + 3) (404 + 12 * k + 4) b
def bapA (A : Int → Int) (s b : Int) : Int := apB A (92 + 26 * s) (92 + 26 * s + 1) b
theorem nrZ_of {A : Int → Int} {l s x y : Int} {t : nS} (h : t = nrF (apB A l s) (A 0 - 0).toNat 0 (0, x, y)) : t.1 = (nrZ A l s).1 ∧ (¬ t.1 = 0 → t = nrZ A l s) := by
  rw [Int.sub_zero] at h
  unfold nrZ
  cases e : (A 0).toNat with
  | zero =>
    rw [e] at h
    have h : t = (0, x, y) := h
    rw [h]
    exact ⟨rfl, fun q => (q rfl).elim⟩
  | succ k =>
    rw [e, nrF_0] at h
    rw [h]
    exact ⟨rfl, fun _ => rfl⟩
theorem sp_X12_layNear (l s : Int) (H : PH) (hB : MB (H 591)) (hs : 0 ≤ s ∧ s ≤ 1116) (hl : 0 ≤ H 591 l ∧ H 591 l ≤ 8) : SPEC 201 [(2, 590), (0, l), (0, s)] H (fun r H' => r = none ∧ (∃ x y, (H' 590 19, H' 590 18, H' 590 17) = nrF (apB (H 591) l s) (H 591 0 - 0).toNat 0 (0, x, y)) ∧ SCm [599] [17, 18, 19] H H') := by
  intro E n res h
  have h := call_runP 5 vm_X12_layNear h
  have h := xw_top (hd := [7]) 11 xD4_ok xc_X12_layNear xa_X12_layNear (t := 0) rfl h
  simp (maxDischargeDepth := 12) -implicitDefEqProofs [vb_X12_layNear_0, vb_X12_layNear_7, vb_X12_layNear_56, vb_X12_layNear_82, vb_X12_layNear_83, vb_X12_layNear_99, vb_X12_layNear_103, vb_X12_layNear_112, vb_X12_layNear_118, xI_0, xI_1, xI_3, xI_6, xI_7, xI_14, xI_36, xI_42, xI_44, xI_46, xI_48, xI_49, xI_50, xI_51, xI_60, xI_61, xI_65, xw_X12_layNear_0, xw_X12_layNear_7, xw_X12_layNear_56, xw_X12_layNear_82, xw_X12_layNear_83, xw_X12_layNear_99, xw_X12_layNear_103, xw_X12_layNear_112, xw_X12_layNear_118, zw_lit, xB_c, xB_s, xB_n, i1_c, j2_c, k1_c, jJ_e, xlg, xls, xla, xpd, ppush, zw_m1, zw_m2, zw_m3, gf_12_0, gf_12_17, gf_12_18, gf_12_19, pf_12_17, pf_12_18, pf_12_19, tg_12_0, tg_12_17, tg_12_18, tg_12_19, gv_590_0, gv_590_17, gv_590_18, gv_590_19, xD1, xD2, xD3, xD4, xp_ne, xp_at] at h
  obtain ⟨m, hm, h⟩ := h
  obtain ⟨H', g1, g2, g3⟩ := lp_layNear l s (H 591) hB hs hl m 0 0 (0, H 590 18, H 590 17) (pup H 590 19 0) (by omega) hB.1.1 (xp_ne (by decide)) (Int.le_refl _) (Int.le_refl _) ⟨by rw [xp_at, if_pos rfl], by rw [xp_at, if_neg (by decide)], by rw [xp_at, if_neg (by decide)]⟩ h
  exact ⟨none, H', g3, rfl, ⟨_, _, g1⟩, SCm_trans (SCm_fld (by decide)) g2⟩
theorem sp_X12_readOf (l s : Int) (H : PH) (hB : MB (H 591)) (hs : 0 ≤ s ∧ s ≤ 1116) (hl : 0 ≤ H 591 l ∧ H 591 l ≤ 8) : SPEC 202 [(2, 590), (0, l), (0, s)] H (fun r H' => r = some (0, rdA (H 591) l s) ∧ SCm [599] [17, 18, 19] H H') := by
  intro E n res h
  have h := call_runP 3 vm_X12_readOf h
  have h := xw_top (hd := []) 7 xD4_ok xc_X12_readOf xa_X12_readOf (t := 0) rfl h
  simp (maxDischargeDepth := 12) -implicitDefEqProofs [vb_X12_readOf_0, vb_X12_readOf_26, vb_X12_readOf_29, vb_X12_readOf_42, vb_X12_readOf_46, xI_0, xI_1, xI_7, xI_8, xI_36, xI_37, xI_48, xI_49, xI_51, xI_61, xI_62, xw_X12_readOf_0, xw_X12_readOf_26, xw_X12_readOf_29, xw_X12_readOf_42, xw_X12_readOf_46, zw_lit, xB_c, xB_s, xB_n, i1_c, j2_c, k1_c, jJ_e, xlg, xls, xla, xpd, ppush, zw_m1, zw_m2, zw_m3, gf_12_0, gf_12_17, gf_12_18, gf_12_19, tg_12_0, tg_12_17, tg_12_18, tg_12_19, gv_590_0, gv_590_17, gv_590_18, gv_590_19, xD1, xD2, xD3, xD4] at h
  obtain ⟨r, H2, ⟨rfl, ⟨x, y, hf⟩, sc⟩, h⟩ := xc_use h (sp_X12_layNear l s H hB hs hl)
  obtain ⟨e1, e2⟩ := nrZ_of hf
  have e3 : H2 591 = H 591 := sc.1 591 (by decide) (by decide)
  have e1 : H2 590 19 = (nrZ (H 591) l s).1 := e1
  have e2 : ¬ H2 590 19 = 0 → H2 590 17 = (nrZ (H 591) l s).2.2 ∧ H2 590 18 = (nrZ (H 591) l s).2.1 := fun q => ⟨congrArg (fun t => t.2.2) (e2 q), congrArg (fun t => t.2.1) (e2 q)⟩
  simp (maxDischargeDepth := 12) -implicitDefEqProofs [vb_X12_readOf_0, vb_X12_readOf_26, vb_X12_readOf_29, vb_X12_readOf_42, vb_X12_readOf_46, xI_0, xI_1, xI_7, xI_8, xI_36, xI_37, xI_48, xI_49, xI_51, xI_61, xI_62, xw_X12_readOf_0, xw_X12_readOf_26, xw_X12_readOf_29, xw_X12_readOf_42, xw_X12_readOf_46, zw_lit, xB_c, xB_s, xB_n, i1_c, j2_c, k1_c, jJ_e, xlg, xls, xla, xpd, ppush, zw_m1, zw_m2, zw_m3, gf_12_0, gf_12_17, gf_12_18, gf_12_19, tg_12_0, tg_12_17, tg_12_18, tg_12_19, gv_590_0, gv_590_17, gv_590_18, gv_590_19, xD1, xD2, xD3, xD4, e3] at h
  repeat' (first | (refine Or.elim h ?_ ?_ <;> clear h <;> intro h) | (refine And.elim ?_ h; clear h; intro _ h))
  all_goals refine ⟨_, H2, h, ?_, sc⟩
  all_goals (unfold rdA; rw [← e1]; congr 2; by_cases q : H2 590 19 = 0)
  all_goals first
    | omega
    | (obtain ⟨e4, e5⟩ := e2 q; rw [← e4, ← e5]; omega)
theorem sp_X12_lineRead (k : Int) (H : PH) (hB : MB (H 591)) (hk : 0 ≤ k ∧ k < 60) : SPEC 203 [(2, 590), (0, k)] H (fun r H' => r = some (0, rdL (H 591) k) ∧ SCm [599] [17, 18, 19] H H') := by
  intro E n res h
  have z1 : zw (12 * k) = 12 * k := zw_lit (by omega) (by omega)
  have z2 : zw (404 + 12 * k) = 404 + 12 * k := zw_lit (by omega) (by omega)
  have z3 : zw (404 + 12 * k + 3) = 404 + 12 * k + 3 := zw_lit (by omega) (by omega)
  have z4 : zw (404 + 12 * k + 4) = 404 + 12 * k + 4 := zw_lit (by omega) (by omega)
  have h := call_runP 2 vm_X12_lineRead h
  have h := xw_top (hd := []) 3 xD4_ok xc_X12_lineRead xa_X12_lineRead (t := 0) rfl h
  simp (maxDischargeDepth := 12) -implicitDefEqProofs [vb_X12_lineRead_0, xI_0, xI_1, xI_7, xI_14, xI_60, xI_61, xI_62, xw_X12_lineRead_0, zw_lit, xB_c, xB_s, xB_n, i1_c, j2_c, k1_c, jJ_e, xlg, xls, xla, xpd, ppush, zw_m1, zw_m2, zw_m3, xD1, xD2, xD3, xD4, z1, z2, z3, z4] at h
  obtain ⟨r, H2, ⟨rfl, sc⟩, h⟩ := xc_use h (sp_X12_readOf _ _ H hB (by omega) (hB.2.2.2.2.2.1 k hk.1 hk.2))
  simp (maxDischargeDepth := 12) -implicitDefEqProofs [vb_X12_lineRead_0, xI_0, xI_1, xI_7, xI_14, xI_60, xI_61, xI_62, xw_X12_lineRead_0, zw_lit, xB_c, xB_s, xB_n, i1_c, j2_c, k1_c, jJ_e, xlg, xls, xla, xpd, ppush, zw_m1, zw_m2, zw_m3, xD1, xD2, xD3, xD4] at h
  exact ⟨_, H2, h, rfl, sc⟩
theorem sp_X12_lineApart (k b : Int) (H : PH) (hB : MB (H 591)) (hk : 0 ≤ k ∧ k < 60) (hb : 0 ≤ b ∧ b < 12) : SPEC 196 [(2, 590), (0, k), (0, b)] H (fun r H' => r = some (0, lapA (H 591) k b) ∧ SCm [599] [17, 18, 19] H H') := by
  intro E n res h
  have z1 : zw (12 * k) = 12 * k := zw_lit (by omega) (by omega)
  have z2 : zw (404 + 12 * k) = 404 + 12 * k := zw_lit (by omega) (by omega)
  have z3 : zw (404 + 12 * k + 3) = 404 + 12 * k + 3 := zw_lit (by omega) (by omega)
  have z4 : zw (404 + 12 * k + 4) = 404 + 12 * k + 4 := zw_lit (by omega) (by omega)
  have z5 : zw (26 * b) = 26 * b := zw_lit (by omega) (by omega)
  have z6 : zw (92 + 26 * b) = 92 + 26 * b := zw_lit (by omega) (by omega)
  have z7 : zw (92 + 26 * b + 1) = 92 + 26 * b + 1 := zw_lit (by omega) (by omega)
  have h := call_runP 3 vm_X12_lineApart h
  have h := xw_top (hd := []) 3 xD4_ok xc_X12_lineApart xa_X12_lineApart (t := 0) rfl h
  simp (maxDischargeDepth := 12) -implicitDefEqProofs [vb_X12_lineApart_0, xI_0, xI_1, xI_7, xI_14, xI_60, xI_61, xI_62, xw_X12_lineApart_0, zw_lit, xB_c, xB_s, xB_n, i1_c, j2_c, k1_c, jJ_e, xlg, xls, xla, xpd, ppush, zw_m1, zw_m2, zw_m3, xD1, xD2, xD3, xD4, z1, z2, z3, z4, z5, z6, z7] at h
  obtain ⟨r, H2, ⟨rfl, hf⟩, h⟩ := xc_use h (sp_X12_apartOf _ _ _ _ H (by omega) (hB.2.2.2.2.2.1 k hk.1 hk.2) (hB.2.2.2.1 b hb.1 hb.2) hB.2.1)
  simp (maxDischargeDepth := 12) -implicitDefEqProofs [vb_X12_lineApart_0, xI_0, xI_1, xI_7, xI_14, xI_60, xI_61, xI_62, xw_X12_lineApart_0, zw_lit, xB_c, xB_s, xB_n, i1_c, j2_c, k1_c, jJ_e, xlg, xls, xla, xpd, ppush, zw_m1, zw_m2, zw_m3, xD1, xD2, xD3, xD4] at h
  exact ⟨_, H2, h, rfl, fun c a _ => hf c (fun e => a (by rw [e]; decide)), fun i _ => congrFun (hf 590 (by decide)) i⟩
theorem sp_X12_billApart (k b : Int) (H : PH) (hB : MB (H 591)) (hk : 0 ≤ k ∧ k < 12) (hb : 0 ≤ b ∧ b < 12) : SPEC 197 [(2, 590), (0, k), (0, b)] H (fun r H' => r = some (0, bapA (H 591) k b) ∧ SCm [599] [17, 18, 19] H H') := by
  intro E n res h
  have z1 : zw (26 * k) = 26 * k := zw_lit (by omega) (by omega)
  have z2 : zw (92 + 26 * k) = 92 + 26 * k := zw_lit (by omega) (by omega)
  have z3 : zw (92 + 26 * k + 1) = 92 + 26 * k + 1 := zw_lit (by omega) (by omega)
  have z5 : zw (26 * b) = 26 * b := zw_lit (by omega) (by omega)
  have z6 : zw (92 + 26 * b) = 92 + 26 * b := zw_lit (by omega) (by omega)
  have z7 : zw (92 + 26 * b + 1) = 92 + 26 * b + 1 := zw_lit (by omega) (by omega)
  have h := call_runP 3 vm_X12_billApart h
  have h := xw_top (hd := []) 3 xD4_ok xc_X12_billApart xa_X12_billApart (t := 0) rfl h
  simp (maxDischargeDepth := 12) -implicitDefEqProofs [vb_X12_billApart_0, xI_0, xI_1, xI_7, xI_14, xI_60, xI_61, xI_62, xw_X12_billApart_0, zw_lit, xB_c, xB_s, xB_n, i1_c, j2_c, k1_c, jJ_e, xlg, xls, xla, xpd, ppush, zw_m1, zw_m2, zw_m3, xD1, xD2, xD3, xD4, z1, z2, z3, z5, z6, z7] at h
  obtain ⟨r, H2, ⟨rfl, hf⟩, h⟩ := xc_use h (sp_X12_apartOf _ _ _ _ H (by omega) (hB.2.2.2.1 k hk.1 hk.2) (hB.2.2.2.1 b hb.1 hb.2) hB.2.1)
  simp (maxDischargeDepth := 12) -implicitDefEqProofs [vb_X12_billApart_0, xI_0, xI_1, xI_7, xI_14, xI_60, xI_61, xI_62, xw_X12_billApart_0, zw_lit, xB_c, xB_s, xB_n, i1_c, j2_c, k1_c, jJ_e, xlg, xls, xla, xpd, ppush, zw_m1, zw_m2, zw_m3, xD1, xD2, xD3, xD4] at h
  exact ⟨_, H2, h, rfl, fun c a _ => hf c (fun e => a (by rw [e]; decide)), fun i _ => congrFun (hf 590 (by decide)) i⟩
/-! the same signs -/
def smA (A : Int → Int) (l s l' s' : Int) : Prop := A l = A l' ∧ ∀ i, 0 ≤ i → i < A l → A (s + i) = A (s' + i)
theorem lp_isSame (l s l' s' : Int) (H : PH) (hs : 0 ≤ s ∧ s ≤ 1116 ∧ 0 ≤ s' ∧ s' ≤ 1116) (hl : 0 ≤ H 591 l ∧ H 591 l ≤ 8) (he : H 591 l = H 591 l') {E : xE} {res : xR} : ∀ (n : Nat) (i : Int), 0 ≤ i → i ≤ H 591 l → (∀ j, 0 ≤ j → j < i → H 591 (s + j) = H 591 (s' + j)) → RUN E res n kd_X12_isSame (zget kd_X12_isSame 20) 20 [590, l, s, l', s', i] [] H → ∃ v, REPR E res (some (0, v)) H ∧ ((v = 1 ∧ smA (H 591) l s l' s') ∨ (v = 0 ∧ ¬ smA (H 591) l s l' s')) := by
  intro n
  induction n using Nat.strongRecOn with
  | _ n ih =>
    intro i hi0 hi1 hq h
    have z1 : zw (i + 1) = i + 1 := zw_lit (by omega) (by omega)
    have z2 : zw (s + i) = s + i := zw_lit (by omega) (by omega)
    have z3 : zw (s' + i) = s' + i := zw_lit (by omega) (by omega)
    have h := xw_top (hd := [20]) 7 xD4_ok xc_X12_isSame xa_X12_isSame (t := 20) rfl h
    simp (maxDischargeDepth := 12) -implicitDefEqProofs [vb_X12_isSame_0, vb_X12_isSame_17, vb_X12_isSame_20, vb_X12_isSame_55, vb_X12_isSame_61, xI_0, xI_1, xI_3, xI_6, xI_7, xI_14, xI_36, xI_43, xI_46, xI_49, xI_51, xI_62, xw_X12_isSame_0, xw_X12_isSame_17, xw_X12_isSame_20, xw_X12_isSame_55, xw_X12_isSame_61, zw_lit, xB_c, xB_s, xB_n, i1_c, j2_c, k1_c, jJ_e, xlg, xls, xla, xpd, ppush, zw_m1, zw_m2, zw_m3, gf_12_0, tg_12_0, gv_590_0, xD1, xD2, xD3, xD4, z1, z2, z3] at h
    rcases h with ⟨q, h⟩ | ⟨q, h⟩
    · exact ⟨1, h, Or.inl ⟨rfl, he, fun j j0 j1 => hq j j0 (by omega)⟩⟩
    · rcases h with ⟨c, m, hm, h⟩ | ⟨c, h⟩
      · exact ih m hm (i + 1) (by omega) (by omega) (fun j j0 j1 => by
          by_cases e : j = i
          · rw [e]; exact c
          · exact hq j j0 (by omega)) h
      · exact ⟨0, h, Or.inr ⟨rfl, fun w => c (w.2 i hi0 q)⟩⟩
theorem sp_X12_isSame (l s l' s' : Int) (H : PH) (hs : 0 ≤ s ∧ s ≤ 1116 ∧ 0 ≤ s' ∧ s' ≤ 1116) (hl : 0 ≤ H 591 l ∧ H 591 l ≤ 8) : SPEC 176 [(2, 590), (0, l), (0, s), (0, l'), (0, s')] H (fun r H' => ∃ v, r = some (0, v) ∧ H' = H ∧ ((v = 1 ∧ smA (H 591) l s l' s') ∨ (v = 0 ∧ ¬ smA (H 591) l s l' s'))) := by
  intro E n res h
  have h := call_runP 6 vm_X12_isSame h
  have h := xw_top (hd := [20]) 7 xD4_ok xc_X12_isSame xa_X12_isSame (t := 0) rfl h
  simp (maxDischargeDepth := 12) -implicitDefEqProofs [vb_X12_isSame_0, vb_X12_isSame_17, vb_X12_isSame_20, vb_X12_isSame_55, vb_X12_isSame_61, xI_0, xI_1, xI_3, xI_6, xI_7, xI_14, xI_36, xI_43, xI_46, xI_49, xI_51, xI_62, xw_X12_isSame_0, xw_X12_isSame_17, xw_X12_isSame_20, xw_X12_isSame_55, xw_X12_isSame_61, zw_lit, xB_c, xB_s, xB_n, i1_c, j2_c, k1_c, jJ_e, xlg, xls, xla, xpd, ppush, zw_m1, zw_m2, zw_m3, gf_12_0, tg_12_0, gv_590_0, xD1, xD2, xD3, xD4] at h
  rcases h with ⟨c, m, hm, h⟩ | ⟨c, h⟩
  · obtain ⟨v, g1, g2⟩ := lp_isSame l s l' s' H hs hl c m 0 (by omega) (by omega) (fun j _ _ => by omega) h
    exact ⟨_, H, g1, v, rfl, rfl, g2⟩
  · exact ⟨_, H, h, 0, rfl, rfl, Or.inr ⟨rfl, fun w => c w.1⟩⟩
/-! what is due -/
def duF (kd am : Int → Int) : Nat → Int → Int → Int
  | 0, _, v => v
  | k + 1, i, v => duF kd am k (i + 1) (if kd i = 0 then zw (v - am i) else v)
def dueA (A : Int → Int) (b : Int) : Int := max 0 (duF (fun i => A (92 + 26 * b + 14 + 2 * i)) (fun i => A (92 + 26 * b + 14 + 2 * i + 1)) (A (92 + 26 * b + 13)).toNat 0 (A (92 + 26 * b + 9)))
theorem lp_due (b : Int) (H : PH) (hb : 0 ≤ b ∧ b < 12) (hB : MB (H 591)) {E : xE} {res : xR} : ∀ (n : Nat) (i v : Int), 0 ≤ i → i ≤ H 591 (92 + 26 * b + 13) → zIn v → RUN E res n kd_X12_due (zget kd_X12_due 18) 18 [590, b, 92 + 26 * b, v, i] [] H → REPR E res (some (0, max 0 (duF (fun i => H 591 (92 + 26 * b + 14 + 2 * i)) (fun i => H 591 (92 + 26 * b + 14 + 2 * i + 1)) (H 591 (92 + 26 * b + 13) - i).toNat i v))) H := by
  have hr := hB.2.2.2.2.1 b hb.1 hb.2
  intro n
  induction n using Nat.strongRecOn with
  | _ n ih =>
    intro i v hi0 hi1 hv h
    have z1 : zw (i + 1) = i + 1 := zw_lit (by omega) (by omega)
    have z2 : zw (2 * i) = 2 * i := zw_lit (by omega) (by omega)
    have z3 : zw (92 + 26 * b + 13) = 92 + 26 * b + 13 := zw_lit (by omega) (by omega)
    have z4 : zw (92 + 26 * b + 14) = 92 + 26 * b + 14 := zw_lit (by omega) (by omega)
    have z5 : zw (92 + 26 * b + 14 + 2 * i) = 92 + 26 * b + 14 + 2 * i := zw_lit (by omega) (by omega)
    have z6 : zw (92 + 26 * b + 14 + 2 * i + 1) = 92 + 26 * b + 14 + 2 * i + 1 := zw_lit (by omega) (by omega)
    have z7 : zw v = v := zw_id hv
    have h := xw_top (hd := [18]) 7 xD4_ok xc_X12_due xa_X12_due (t := 18) rfl h
    simp (maxDischargeDepth := 12) -implicitDefEqProofs [vb_X12_due_0, vb_X12_due_18, vb_X12_due_69, vb_X12_due_70, vb_X12_due_78, xI_0, xI_1, xI_3, xI_6, xI_7, xI_8, xI_14, xI_15, xI_16, xI_36, xI_38, xI_46, xI_49, xI_51, xI_60, xI_62, xw_X12_due_0, xw_X12_due_18, xw_X12_due_69, xw_X12_due_70, xw_X12_due_78, zw_lit, xB_c, xB_s, xB_n, i1_c, j2_c, k1_c, jJ_e, xlg, xls, xla, xpd, ppush, zw_m1, zw_m2, zw_m3, gf_12_0, tg_12_0, gv_590_0, xD1, xD2, xD3, xD4, z1, z2, z3, z4, z5, z6, z7] at h
    rcases h with ⟨q, h⟩ | ⟨q, h⟩
    · rw [show (H 591 (92 + 26 * b + 13) - i).toNat = 0 by omega]
      exact h
    · rw [show (H 591 (92 + 26 * b + 13) - i).toNat = (H 591 (92 + 26 * b + 13) - (i + 1)).toNat + 1 by omega]
      unfold duF
      rcases h with ⟨c, m, hm, h⟩ | ⟨c, m, hm, h⟩
      · rw [if_neg c]
        exact ih m hm (i + 1) v (by omega) (by omega) hv h
      · rw [if_pos c]
        exact ih m hm (i + 1) _ (by omega) (by omega) (zw_in _) h
theorem sp_X12_due (b : Int) (H : PH) (hb : 0 ≤ b ∧ b < 12) (hB : MB (H 591)) : SPEC 208 [(2, 590), (0, b)] H (fun r H' => r = some (0, dueA (H 591) b) ∧ H' = H) := by
  intro E n res h
  have z1 : zw (26 * b) = 26 * b := zw_lit (by omega) (by omega)
  have z2 : zw (92 + 26 * b) = 92 + 26 * b := zw_lit (by omega) (by omega)
  have z3 : zw (92 + 26 * b + 9) = 92 + 26 * b + 9 := zw_lit (by omega) (by omega)
  have h := call_runP 5 vm_X12_due h
  have h := xw_top (hd := [18]) 7 xD4_ok xc_X12_due xa_X12_due (t := 0) rfl h
  simp (maxDischargeDepth := 12) -implicitDefEqProofs [vb_X12_due_0, vb_X12_due_18, vb_X12_due_69, vb_X12_due_70, vb_X12_due_78, xI_0, xI_1, xI_3, xI_6, xI_7, xI_8, xI_14, xI_15, xI_16, xI_36, xI_38, xI_46, xI_49, xI_51, xI_60, xI_62, xw_X12_due_0, xw_X12_due_18, xw_X12_due_69, xw_X12_due_70, xw_X12_due_78, zw_lit, xB_c, xB_s, xB_n, i1_c, j2_c, k1_c, jJ_e, xlg, xls, xla, xpd, ppush, zw_m1, zw_m2, zw_m3, gf_12_0, tg_12_0, gv_590_0, xD1, xD2, xD3, xD4, z1, z2, z3] at h
  obtain ⟨m, hm, h⟩ := h
  have h := lp_due b H hb hB m 0 _ (by omega) (hB.2.2.2.2.1 b hb.1 hb.2).1 (hB.2.2.2.2.2.2 _ (by omega) (by omega)) h
  rw [Int.sub_zero] at h
  exact ⟨_, H, h, rfl, rfl⟩
