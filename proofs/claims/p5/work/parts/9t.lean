/-! a deed noted -/
def ndHx (H : PH) (k a b d : Int) : PH := pup (pup (pup (pup (pup (pup (pup (pup (pup H 0 8 (dnx (H 0 8))) 0 7 (min 20 (H 0 7 + 1))) (469 + 6 * dnx (H 0 8)) 0 k) (469 + 6 * dnx (H 0 8)) 1 a) (469 + 6 * dnx (H 0 8)) 2 b) (469 + 6 * dnx (H 0 8)) 3 d) 215 1 0) 221 2 0) 372 2 0
theorem sp_nd (k a b d : Int) (H : PH) (h7 : 0 ≤ H 0 7 ∧ H 0 7 ≤ 20) (h8 : 0 ≤ H 0 8 ∧ H 0 8 ≤ 19) : SPEC 154 [(2, 0), (0, k), (0, a), (0, b), (0, d)] H (fun r H' => r = some (2, 469 + 6 * dnx (H 0 8)) ∧ H' = ndHx H k a b d) := sp_X11_noteDeed k a b d H h7 h8
/-- the rows of the class that a text may change -/
def FXs (H H' : PH) : Prop := (∀ d, ¬ (d = 1 ∨ d = 2 ∨ (5 ≤ d ∧ d ≤ 40) ∨ d = 42 ∨ d = 43 ∨ (57 ≤ d ∧ d ≤ 92) ∨ d = 213) → (∀ k, 0 ≤ k → k < 60 → ¬ d = H 47 k) → H' d = H d) ∧ (∀ i, ¬ i = 2 → ¬ i = 4 → H' 1 i = H 1 i) ∧ (∀ i, ¬ i = 3 → H' 2 i = H 2 i) ∧ H' 47 = H 47
theorem FXs_t {H H' : PH} (h : FXt (fun _ => 0) H H') : FXs H H' := ⟨fun d d1 d2 => h.1 d d1 (fun k k0 k1 => d2 k k0 k1), h.2.1, h.2.2.1, h.2.2.2.2⟩
theorem FXs_trans {H H1 H2 : PH} (a : FXs H H1) (b : FXs H1 H2) : FXs H H2 := ⟨fun d h1 h2 => (b.1 d h1 (fun k k0 k1 => by rw [a.2.2.2]; exact h2 k k0 k1)).trans (a.1 d h1 h2), fun i h1 h2 => (b.2.1 i h1 h2).trans (a.2.1 i h1 h2), fun i h1 => (b.2.2.1 i h1).trans (a.2.2.1 i h1), b.2.2.2.trans a.2.2.2⟩
theorem FXs_up {H : PH} {i v : Int} : FXs H (pup H 213 i v) := ⟨fun d d1 _ => xp_ne (by omega), fun i _ _ => congrFun (xp_ne (by decide)) i, fun i _ => congrFun (xp_ne (by decide)) i, xp_ne (by decide)⟩
/-- rows ahead of the new ones are as they were -/
theorem unT_EXT {A B : Int → Int} (hA : MB A) (h11 : 0 ≤ A 11 ∧ A 11 ≤ 60) (h : EXT A B) : REq (unT B (A 0) (A 2) (A 1)) A := by
  obtain ⟨e0, e1, e2, e3, e4, e5⟩ := h
  have a0 := hA.1
  have a1 := hA.2.1
  have a2 := hA.2.2.1
  obtain ⟨c0, c1, c2⟩ := unT_c (B := B) (a := A 0) (b := A 2) (c := A 1)
  have at3 : ∀ i : Int, 3 ≤ i → unT B (A 0) (A 2) (A 1) i = B i := fun i hi => unT_at hi
  refine ⟨fun i i0 i1 => ?_, fun i i0 i1 => ?_, fun b b0 b1 => ?_, fun k k0 k1 => ?_, fun k k0 k1 => ?_⟩
  · by_cases q0 : i = 0
    · rw [q0, c0]
    · by_cases q1 : i = 1
      · rw [q1, c1]
      · by_cases q2 : i = 2
        · rw [q2, c2]
        · rw [at3 i (by omega), e3 i (by omega) (by omega)]
  · rw [c1] at i1
    rw [at3 _ (by omega), at3 _ (by omega), e3 _ (by omega) (by omega), e3 _ (by omega) (by omega)]
    exact ⟨rfl, rfl⟩
  · rw [c0] at b1
    refine EB_symm (EB_out (fun i i0 i1 => ?_) (hA.2.2.2.1 b b0 (by omega)).2 (hA.2.2.2.2.1 b b0 (by omega)).2)
    rw [at3 _ (by omega), e4 _ (by omega) (by omega)]
  · rw [c2] at k1
    refine EL_symm (EL_out (fun i i0 i1 => ?_) (hA.2.2.2.2.2.1 k k0 (by omega)).2)
    rw [at3 _ (by omega), e5 _ (by omega) (by omega)]
  · rw [at3 11 (by decide), e3 11 (by decide) (by omega)] at k1
    rw [at3 _ (by omega), e3 _ (by omega) (by omega)]
theorem CPr_EQ {H : PH} {A B : Int → Int} (h : CPr H A) (e : REq A B) : CPr H B := by
  have e1 : A 1 = B 1 := e.1 1 (by decide) (by decide)
  refine ⟨fun j j0 j1 => ?_, fun i j i0 i1 j0 j1 w => h.2 i j i0 (by omega) j0 (by omega) w⟩
  obtain ⟨a, b, c, d, f⟩ := h.1 j j0 (by omega)
  obtain ⟨g1, g2⟩ := e.2.1 j j0 (by omega)
  exact ⟨a, b, c, by rw [← g1]; exact d, by rw [← g2]; exact f⟩
set_option maxRecDepth 100000 in
theorem sp_X11_text (sz : Int) (w : Int → Int) (A : Int → Int) (H : PH) (h1 : H 213 1 = sz) (hW : H 214 = w) (hs : 0 ≤ sz ∧ sz ≤ 600) (hw : ∀ i, 0 ≤ i → i < sz → 0 ≤ w i ∧ w i ≤ 255) (ci : CI H A) (cp : CPr H A) (hB : MB A) (h11 : 0 ≤ A 11 ∧ A 11 ≤ 60) (h7 : 0 ≤ H 0 7 ∧ H 0 7 ≤ 20) (h8 : 0 ≤ H 0 8 ∧ H 0 8 ≤ 19) : SPEC 107 [(2, 0)] H (fun r H' => (∃ (m : Nat) (B' : Int → Int) (H1 : PH), txK sz w m 0 A B' ∧ r = some (0, (m : Int)) ∧ FXs H H1 ∧ H1 213 1 = 0 ∧ CI H1 B' ∧ CPr H1 B' ∧ EXT A B' ∧ H' = ndHx H1 0 (A 0) (A 2) (A 1)) ∨ ((∀ m B', ¬ txK sz w m 0 A B') ∧ r = some (0, -1) ∧ FXs H H' ∧ H' 213 1 = 0 ∧ CI H' A ∧ CPr H' A)) := by
  intro E n res h
  have e0 : H 1 2 = A 0 := ci.1.1.1.symm
  have e1 : H 2 3 = A 1 := ci.1.1.2.1.symm
  have e2 : H 1 4 = A 2 := ci.1.1.2.2.1.symm
  have h := call_runP 5 vm_X11_text h
  have h := xw_top (hd := []) 4 xD6_ok xc_X11_text xa_X11_text (t := 0) rfl h
  simp (maxDischargeDepth := 12) -implicitDefEqProofs [vb_X11_text_0, vb_X11_text_66, xI_0, xI_1, xI_3, xI_7, xI_35, xI_44, xI_49, xI_50, xI_61, xI_62, xw_X11_text_0, xw_X11_text_66, zw_lit, xB_c, xB_s, xB_n, i1_c, j2_c, k1_c, jJ_e, xlg, xls, xla, xpd, ppush, zw_m1, zw_m2, zw_m3, gf_1_0, gf_1_2, gf_1_4, gf_8_3, gf_11_0, gf_11_1, pf_10_1, tg_10_1, tg_11_0, tg_11_1, tg_1_0, tg_1_2, tg_1_4, tg_8_3, gv_1_0, gv_1_2, gv_1_4, gv_2_3, gv_0_0, gv_0_1, xD1, xD2, xD3, xD4, xD5, xD6, xb1_0, e0, e1, e2] at h
  obtain ⟨r, H1, ⟨f1, g⟩, h⟩ := xc_use h (sp_X1_takeItems sz w A H h1 hW hs hw ci cp hB h11)
  have f1 := FXs_t f1
  rcases g with ⟨m, B', k1, rfl, k2, k3, k4⟩ | ⟨k1, rfl, B, k2⟩
  · have nm : ¬ (m : Int) = -1 := by omega
    simp (maxDischargeDepth := 12) -implicitDefEqProofs [vb_X11_text_0, vb_X11_text_66, xI_0, xI_1, xI_3, xI_7, xI_35, xI_44, xI_49, xI_50, xI_61, xI_62, xw_X11_text_0, xw_X11_text_66, zw_lit, xB_c, xB_s, xB_n, i1_c, j2_c, k1_c, jJ_e, xlg, xls, xla, xpd, ppush, zw_m1, zw_m2, zw_m3, gf_1_0, gf_1_2, gf_1_4, gf_8_3, gf_11_0, gf_11_1, pf_10_1, tg_10_1, tg_11_0, tg_11_1, tg_1_0, tg_1_2, tg_1_4, tg_8_3, gv_1_0, gv_1_2, gv_1_4, gv_2_3, gv_0_0, gv_0_1, xD1, xD2, xD3, xD4, xD5, xD6, xb1_0, nm] at h
    have f2 : FXs H (pup H1 213 1 0) := FXs_trans f1 FXs_up
    have ez : ∀ i, pup H1 213 1 0 0 i = H 0 i := fun i => by rw [f2.1 0 (by decide) (fun k k0 k1 w => by have := KL_in (ci.2.2.1 k k0 k1); omega)]
    have cz : CI (pup H1 213 1 0) B' := CI_Z (txK_MB hw m 0 A B' (by omega) hB k1).1 k2 (fun c hc => xp_ne (by omega))
    have cpz : CPr (pup H1 213 1 0) B' := by
      unfold CPr mtC
      rw [xp_ne (by decide), xp_ne (by decide)]
      exact k3
    obtain ⟨r, H2, ⟨rfl, rfl⟩, h⟩ := xc_use h (sp_nd 0 (A 0) (A 2) (A 1) (pup H1 213 1 0) (by rw [ez]; exact h7) (by rw [ez]; exact h8))
    exact ⟨_, _, h, Or.inl ⟨m, B', _, k1, rfl, f2, by rw [xp_at, if_pos rfl], cz, cpz, k4, rfl⟩⟩
  · simp (maxDischargeDepth := 12) -implicitDefEqProofs [vb_X11_text_0, vb_X11_text_66, xI_0, xI_1, xI_3, xI_7, xI_35, xI_44, xI_49, xI_50, xI_61, xI_62, xw_X11_text_0, xw_X11_text_66, zw_lit, xB_c, xB_s, xB_n, i1_c, j2_c, k1_c, jJ_e, xlg, xls, xla, xpd, ppush, zw_m1, zw_m2, zw_m3, gf_1_0, gf_1_2, gf_1_4, gf_8_3, gf_11_0, gf_11_1, pf_10_1, tg_10_1, tg_11_0, tg_11_1, tg_1_0, tg_1_2, tg_1_4, tg_8_3, gv_1_0, gv_1_2, gv_1_4, gv_2_3, gv_0_0, gv_0_1, xD1, xD2, xD3, xD4, xD5, xD6, xb1_0] at h
    have f2 : FXs H (pup H1 213 1 0) := FXs_trans f1 FXs_up
    obtain ⟨x1, x2, x3, x4, x5, x6, x7, x8, x9⟩ := TXr_fr k2 (H' := pup H1 213 1 0) (fun c hc => xp_ne (by omega))
    have eA := x8
    obtain ⟨r, H2, ⟨rfl, c1, c2, c3, c4, c5, c6, c7⟩, h⟩ := xc_use h (sp_X1_cutTo B (A 0) (A 2) (A 1) (pup H1 213 1 0) x4 x1 x6 (fun e => x7 e.symm) x3 x2 ⟨hB.1.1, eA.1⟩ ⟨hB.2.2.1.1, eA.2.2.1⟩ ⟨hB.2.1.1, eA.2.1⟩)
    have rq := unT_EXT hB h11 x8
    refine ⟨_, H2, h, Or.inr ⟨k1, rfl, FXs_trans f2 ⟨fun d d1 d2 => c7 d (by omega) (by omega) (by omega) (fun j j0 j1 => d2 j j0 (by have := hB.2.2.1; omega)), c4, c5, c3 47 (by decide) (by decide) (by decide) (fun w => by have := KL_in w; omega)⟩, ?_, CI_EQ c1 rq, CPr_EQ c2 rq⟩⟩
    rw [c3 213 (by decide) (by decide) (by decide) (fun w => by have := KL_in w; omega), xp_at, if_pos rfl]
