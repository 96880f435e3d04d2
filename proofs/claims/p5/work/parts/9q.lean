theorem sgP_cd {c : Int} : sgP c ↔ ¬ cdF c = 0 := by
  unfold sgP cdF
  omega
theorem cdF_inj {c d : Int} (h : ¬ cdF c = 0) (g : ¬ cdF d = 0) : cdF c = cdF d ↔ c = d := by
  constructor
  · intro e
    rw [← (cdF_oc h).2.2.1, ← (cdF_oc g).2.2.1, e]
  · intro e
    rw [e]
/-! a couple more -/
theorem cpR_o {sz : Int} {w : Int → Int} {a : Int} {B : Int → Int} {j : Int} (h1 : ¬ j = 1) (h2 : ¬ j = 76 + 2 * B 1) (h3 : ¬ j = 76 + 2 * B 1 + 1) : cpR sz w a B j = B j := by
  unfold cpR xup
  rw [if_neg h1, if_neg h3, if_neg h2]
theorem TXr_cp {sz : Int} {w : Int → Int} {a : Int} {A B : Int → Int} {H H' : PH} (hw : ∀ i, 0 ≤ i → i < sz → 0 ≤ w i ∧ w i ≤ 255) (ha : 0 ≤ a) (h : TXr A B H) (hk : cpK sz w a B) (hF : ∀ c, ¬ c = 2 → ¬ (5 ≤ c ∧ c ≤ 40) → ¬ c = 42 → ¬ c = 43 → ¬ c = 213 → H' c = H c) (h2 : H' 2 3 = B 1 + 1) (h42 : ∀ i, H' 42 i = if i = B 1 then cdF (nxF sz w (a + 1)) else H 42 i) (h43 : ∀ i, H' 43 i = if i = B 1 then cdF (nxF sz w (a + 2)) else H 43 i) (hc : ∃ G : PH, (∀ c, 5 ≤ c → c ≤ 41 → G c = H c) ∧ ∀ c, 5 ≤ c → c ≤ 41 → H' c = pup (pup G (4 + cdF (nxF sz w (a + 1))) (cdF (nxF sz w (a + 2))) 1) (4 + cdF (nxF sz w (a + 2))) (cdF (nxF sz w (a + 1))) 1 c) : TXr A (cpR sz w a B) H' := by
  obtain ⟨⟨⟨c0, c1, c2, cr⟩, b1, b2, b3, b4⟩, cp, c, d, l, e, f, g, i⟩ := h
  obtain ⟨k0, k1, k2, k3, k4, k5⟩ := id hk
  have hB0 := d.1
  have hB1 := d.2.1
  have hB2 := d.2.2.1
  have d1 := cdF_oc (sgP_cd.mp k1)
  have d2 := cdF_oc (sgP_cd.mp k2)
  have dn : ¬ cdF (nxF sz w (a + 1)) = cdF (nxF sz w (a + 2)) := fun q => k3 ((cdF_inj (sgP_cd.mp k1) (sgP_cd.mp k2)).mp q)
  have e1 : cpR sz w a B 1 = B 1 + 1 := cpR_1
  have ej : ∀ j, ¬ j = 1 → ¬ (76 ≤ j ∧ j < 92) → cpR sz w a B j = B j := fun j j0 j1 => cpR_o j0 (by omega) (by omega)
  have e47 : H' 47 = H 47 := hF 47 (by decide) (by decide) (by decide) (by decide) (by decide)
  have e10 : H' 1 = H 1 := hF 1 (by decide) (by decide) (by decide) (by decide) (by decide)
  have hq : ∀ q, KL q → H' q = H q := fun q hq => by
    have := KL_in hq
    exact hF q (by omega) (by omega) (by omega) (by omega) (by omega)
  have nl : ¬ lkC H (B 1) (cdF (nxF sz w (a + 1))) (cdF (nxF sz w (a + 2))) := fun q => by
    have := (lkC_iff hB1.1 cp _ _ d1.1 d1.2.1 d2.1 d2.2.1).mp q
    rw [d1.2.2.1, d2.2.2.1] at this
    exact k4 this
  have old : ∀ j, 0 ≤ j → j < B 1 → H' 42 j = H 42 j ∧ H' 43 j = H 43 j := fun j j0 j1 => by
    rw [h42, h43, if_neg (by omega), if_neg (by omega)]
    exact ⟨rfl, rfl⟩
  have nw : H' 42 (B 1) = cdF (nxF sz w (a + 1)) ∧ H' 43 (B 1) = cdF (nxF sz w (a + 2)) := by
    rw [h42, h43, if_pos rfl, if_pos rfl]
    exact ⟨rfl, rfl⟩
  have cp' : CPr H' (cpR sz w a B) := by
    refine ⟨fun j j0 j1 => ?_, fun x y x0 x1 y0 y1 m => ?_⟩
    · rw [e1] at j1
      by_cases q : j = B 1
      · rw [q, nw.1, nw.2]
        refine ⟨⟨d1.1, d1.2.1⟩, ⟨d2.1, d2.2.1⟩, dn, ?_, ?_⟩
        · rw [d1.2.2.1]
          unfold cpR xup
          rw [if_neg (by omega), if_neg (by omega), if_pos rfl]
        · rw [d2.2.2.1]
          unfold cpR xup
          rw [if_neg (by omega), if_pos rfl]
      · have := cp.1 j j0 (by omega)
        rw [(old j j0 (by omega)).1, (old j j0 (by omega)).2, cpR_o (by omega) (by omega) (by omega), cpR_o (by omega) (by omega) (by omega)]
        exact this
    · rw [e1] at x1 y1
      by_cases qx : x = B 1
      · by_cases qy : y = B 1
        · omega
        · exfalso
          rw [qx] at m
          have oy := old y y0 (by omega)
          unfold mtC at m
          rw [nw.1, nw.2, oy.1, oy.2] at m
          refine nl ⟨y, y0, by omega, ?_⟩
          unfold mtC
          rcases m with ⟨m1, m2⟩ | ⟨m1, m2⟩
          · exact Or.inl ⟨m1.symm, m2.symm⟩
          · exact Or.inr ⟨m2.symm, m1.symm⟩
      · have ox := old x x0 (by omega)
        by_cases qy : y = B 1
        · exfalso
          rw [qy] at m
          unfold mtC at m
          rw [nw.1, nw.2, ox.1, ox.2] at m
          exact nl ⟨x, x0, by omega, m⟩
        · have oy := old y y0 (by omega)
          refine cp.2 x y x0 (by omega) y0 (by omega) ?_
          unfold mtC at m ⊢
          rw [ox.1, ox.2, oy.1, oy.2] at m
          exact m
  have tb : TBq (lkC H (B 1)) H := (TBq_iff (lkC_iff hB1.1 cp)).mpr b3
  have tb' : TBq (lkC H' (cpR sz w a B 1)) H' := by
    obtain ⟨G, hG, hG'⟩ := hc
    have tG : TBq (lkC H (B 1)) G := fun x y x0 x1 y0 y1 => by
      rw [hG (4 + x) (by omega) (by omega)]
      exact tb x y x0 x1 y0 y1
    rw [e1]
    have up : ∀ x y, lkC H (B 1) x y → lkC H' (B 1 + 1) x y := by
      rintro x y ⟨j, j0, j1, m⟩
      refine ⟨j, j0, by omega, ?_⟩
      unfold mtC at m ⊢
      rw [(old j j0 j1).1, (old j j0 j1).2]
      exact m
    have s := TBq_set (P := lkC H (B 1)) (P' := lkC H' (B 1 + 1)) (v := 1) ⟨d1.1, d1.2.1⟩ ⟨d2.1, d2.2.1⟩ dn tG (fun _ => ⟨⟨B 1, hB1.1, by omega, Or.inl nw⟩, ⟨B 1, hB1.1, by omega, Or.inr ⟨nw.1, nw.2⟩⟩⟩) (fun q => (q rfl).elim) (fun x y n1 n2 => by
      refine ⟨up x y, ?_⟩
      rintro ⟨j, j0, j1, m⟩
      by_cases q : j = B 1
      · exfalso
        rw [q] at m
        unfold mtC at m
        rw [nw.1, nw.2] at m
        rcases m with ⟨m1, m2⟩ | ⟨m1, m2⟩
        · exact n1 ⟨m1.symm, m2.symm⟩
        · exact n2 ⟨m2.symm, m1.symm⟩
      · refine ⟨j, j0, by omega, ?_⟩
        unfold mtC at m ⊢
        rw [(old j j0 (by omega)).1, (old j j0 (by omega)).2] at m
        exact m)
    intro x y x0 x1 y0 y1
    rw [hG' (4 + x) (by omega) (by omega)]
    exact s x y x0 x1 y0 y1
  refine ⟨⟨⟨?_, ?_, ?_, ?_⟩, fun x x0 x1 => ?_, fun k k0 k1 => ?_, ?_, ?_⟩, cp', ?_, MB_cp hw ha d hk, ?_, fun k k0 k1 => ?_, fun q => ?_, ?_, i⟩
  · rw [ej 0 (by decide) (by decide), e10]
    exact c0
  · rw [e1, h2]
  · rw [ej 2 (by decide) (by decide), e10]
    exact c2
  · rw [e10]
    simp only [ej 3 (by decide) (by decide), ej 4 (by decide) (by decide), ej 5 (by decide) (by decide), ej 6 (by decide) (by decide), ej 7 (by decide) (by decide), ej 8 (by decide) (by decide), ej 9 (by decide) (by decide)]
    exact cr
  · rw [ej 0 (by decide) (by decide)] at x1
    have v6 := d.2.2.2.2.1 x x0 (by omega)
    have v0 := d.2.2.2.1 x x0 (by omega)
    have gx := BRr_EQ (b1 x x0 x1) (EB_out (B := cpR sz w a B) (fun i i0 i1 => (ej i (by omega) (by omega)).symm) (by omega) (by omega))
    unfold BRr at gx ⊢
    rw [hF (57 + 3 * x) (by omega) (by omega) (by omega) (by omega) (by omega), hF (57 + 3 * x + 1) (by omega) (by omega) (by omega) (by omega) (by omega), hF (57 + 3 * x + 2) (by omega) (by omega) (by omega) (by omega) (by omega)]
    exact gx
  · rw [ej 2 (by decide) (by decide)] at k1
    have v := d.2.2.2.2.2.1 k k0 (by omega)
    have gx := LNr_EQ (b2 k k0 k1) (EL_out (B := cpR sz w a B) (fun i i0 i1 => (ej i (by omega) (by omega)).symm) (by omega))
    unfold LNr at gx ⊢
    rw [e47, hq _ (c.1 k k0 (by omega))]
    exact gx
  · exact (TBq_iff (lkC_iff (by rw [e1]; omega) cp')).mp tb'
  · have kw := b4.1
    have nw := KWz kw
    obtain ⟨w0, w1, w2, w3⟩ := b4
    unfold LWr
    rw [e10, hF (H 1 5) (by omega) (by omega) (by omega) (by omega) (by omega), hF (H 1 5 + 1) (by omega) (by omega) (by omega) (by omega) (by omega), ej 10 (by decide) (by decide), ej 11 (by decide) (by decide)]
    exact ⟨w0, w1, w2, fun k k0 k1 => by rw [ej (12 + k) (by omega) (by omega)]; exact w3 k k0 k1⟩
  · unfold LDi
    rw [e47]
    exact c
  · rw [ej 11 (by decide) (by decide)]
    exact l
  · rw [ej 2 (by decide) (by decide)] at k1
    have := e k k0 k1
    rw [e47, hq _ (c.1 k k0 (by omega)), ej 0 (by decide) (by decide)]
    exact this
  · have := g.2.1
    omega
  · obtain ⟨g0, g1, g2, g3, g4, g5⟩ := g
    have a1 := i.2.1
    have a0 := i.1
    refine ⟨by rw [ej 0 (by decide) (by decide)]; exact g0, by omega, by rw [ej 2 (by decide) (by decide)]; exact g2, fun j j0 j1 => ?_, fun j j0 j1 => ?_, fun j j0 j1 => ?_⟩
    · rw [cpR_o (by omega) (by omega) (by omega)]
      exact g3 j j0 j1
    · rw [ej j (by omega) (by omega)]
      exact g4 j j0 j1
    · rw [ej j (by omega) (by omega)]
      exact g5 j j0 j1
theorem sp_X8_areLike (a b : Int) (H : PH) (ha : 0 ≤ a ∧ a ≤ 37) : SPEC 81 [(2, 2), (0, a), (0, b)] H (fun r H' => r = some (0, xb1 (H (4 + a) b = 1)) ∧ H' = H) := by
  intro E n res h
  have g1 : ∀ X : PH, gv X 3 a = 4 + a := fun X => gv3 ha.1 (by omega)
  have i1 : 0 ≤ 4 + a := by omega
  by_cases q : H (4 + a) b = 1
  · have h := call_runP 3 vm_X8_areLike h
    have h := xw_top (hd := []) 5 xD6_ok xc_X8_areLike xa_X8_areLike (t := 0) rfl h
    simp (maxDischargeDepth := 12) -implicitDefEqProofs [vb_X8_areLike_0, vb_X8_areLike_16, vb_X8_areLike_17, xI_0, xI_1, xI_7, xI_36, xI_44, xI_49, xI_51, xI_53, xI_62, xw_X8_areLike_0, xw_X8_areLike_16, xw_X8_areLike_17, zw_lit, xB_c, xB_s, xB_n, i1_c, j2_c, k1_c, jJ_e, xlg, xls, xla, xpd, ppush, zw_m1, zw_m2, zw_m3, gf_8_0, tg_8_0, gv_2_0, xD1, xD2, xD3, xD4, xD5, xD6, xb1_0, g1, i1, q] at h
    exact ⟨_, _, h, by rw [xb1_t q], rfl⟩
  · have h := call_runP 3 vm_X8_areLike h
    have h := xw_top (hd := []) 5 xD6_ok xc_X8_areLike xa_X8_areLike (t := 0) rfl h
    simp (maxDischargeDepth := 12) -implicitDefEqProofs [vb_X8_areLike_0, vb_X8_areLike_16, vb_X8_areLike_17, xI_0, xI_1, xI_7, xI_36, xI_44, xI_49, xI_51, xI_53, xI_62, xw_X8_areLike_0, xw_X8_areLike_16, xw_X8_areLike_17, zw_lit, xB_c, xB_s, xB_n, i1_c, j2_c, k1_c, jJ_e, xlg, xls, xla, xpd, ppush, zw_m1, zw_m2, zw_m3, gf_8_0, tg_8_0, gv_2_0, xD1, xD2, xD3, xD4, xD5, xD6, xb1_0, g1, i1, q] at h
    exact ⟨_, _, h, by rw [xb1_f q], rfl⟩
theorem sp_X8_addCouple (a b m : Int) (H : PH) (ha : 1 ≤ a ∧ a ≤ 36) (hb : 1 ≤ b ∧ b ≤ 36) (hm : H 2 3 = m) (h8 : 0 ≤ m ∧ m < 8) : SPEC 83 [(2, 2), (0, a), (0, b)] H (fun r H' => r = none ∧ H' = pup (pup (pup (pup (pup H 42 m a) 43 m b) 2 3 (m + 1)) (4 + a) b 1) (4 + b) a 1) := by
  intro E n res h
  have z1 : zw (m + 1) = m + 1 := zw_lit (by omega) (by omega)
  have q : ¬ 8 ≤ m := by omega
  have q' : m < 8 := by omega
  have h := call_runP 3 vm_X8_addCouple h
  have h := xw_top (hd := []) 4 xD6_ok xc_X8_addCouple xa_X8_addCouple (t := 0) rfl h
  simp (maxDischargeDepth := 12) -implicitDefEqProofs [vb_X8_addCouple_0, vb_X8_addCouple_46, xI_0, xI_1, xI_7, xI_8, xI_14, xI_33, xI_46, xI_49, xI_50, xI_52, xI_61, xI_65, xw_X8_addCouple_0, xw_X8_addCouple_46, zw_lit, xB_c, xB_s, xB_n, i1_c, j2_c, k1_c, jJ_e, xlg, xls, xla, xpd, ppush, zw_m1, zw_m2, zw_m3, gf_8_1, gf_8_2, gf_8_3, pf_8_3, tg_8_1, tg_8_2, tg_8_3, gv_2_1, gv_2_2, gv_2_3, xD1, xD2, xD3, xD4, xD5, xD6, xb1_0, hm, z1, q, q', xp_ne, xp_at] at h
  obtain ⟨r, H2, ⟨rfl, rfl⟩, h⟩ := xc_use h (sp_X8_setCost a b 1 _ (by omega) (by omega))
  exact ⟨_, _, h, rfl, rfl⟩
set_option maxRecDepth 100000 in
theorem sp_X1_takeCouple (sz a : Int) (w : Int → Int) (A B : Int → Int) (H : PH) (hT : TP sz w a H) (ha : a < sz) (hw : ∀ i, 0 ≤ i → i < sz → 0 ≤ w i ∧ w i ≤ 255) (hX : TXr A B H) : SPEC 9 [(2, 1), (2, 213)] H (fun r H' => FXt A H H' ∧ ((cpK sz w a B ∧ r = some (0, 1) ∧ TP sz w (a + 4) H' ∧ TXr A (cpR sz w a B) H') ∨ (¬ cpK sz w a B ∧ r = some (0, 0) ∧ TXr A B H'))) := by
  intro E n res h
  obtain ⟨⟨⟨-, c1, -⟩, -⟩, -, -, hB, -⟩ := id hX
  have hB1 := hB.2.1
  have e2 := hT.2.2.1
  have bd := hT.2.2
  have bad : ∀ H' : PH, PF H H' → ¬ cpK sz w a B → REPR E res (some (0, 0)) H' → ∃ r H', REPR E res r H' ∧ FXt A H H' ∧ ((cpK sz w a B ∧ r = some (0, 1) ∧ TP sz w (a + 4) H' ∧ TXr A (cpR sz w a B) H') ∨ (¬ cpK sz w a B ∧ r = some (0, 0) ∧ TXr A B H')) := fun H' p k g => ⟨_, H', g, FXt_PF p, Or.inr ⟨k, rfl, TXr_PF hX p⟩⟩
  by_cases n8 : B 1 = 8
  · have q : ¬ H 2 3 < 8 := by omega
    have q' : 8 ≤ H 2 3 := by omega
    have h := call_runP 5 vm_X1_takeCouple h
    have h := xw_top (hd := []) 10 xD6_ok xc_X1_takeCouple xa_X1_takeCouple (t := 0) rfl h
    simp (maxDischargeDepth := 12) -implicitDefEqProofs [vb_X1_takeCouple_0, vb_X1_takeCouple_21, vb_X1_takeCouple_49, vb_X1_takeCouple_53, vb_X1_takeCouple_62, vb_X1_takeCouple_81, vb_X1_takeCouple_87, vb_X1_takeCouple_98, xI_0, xI_1, xI_3, xI_7, xI_8, xI_14, xI_33, xI_36, xI_37, xI_38, xI_43, xI_45, xI_49, xI_50, xI_61, xI_62, xw_X1_takeCouple_0, xw_X1_takeCouple_21, xw_X1_takeCouple_49, xw_X1_takeCouple_53, xw_X1_takeCouple_62, xw_X1_takeCouple_81, xw_X1_takeCouple_87, xw_X1_takeCouple_98, zw_lit, xB_c, xB_s, xB_n, i1_c, j2_c, k1_c, jJ_e, xlg, xls, xla, xpd, ppush, zw_m1, zw_m2, zw_m3, gf_1_0, gf_8_3, gf_10_2, pf_10_2, tg_10_2, tg_1_0, tg_8_3, gv_1_0, gv_2_3, gv_213_2, xD1, xD2, xD3, xD4, xD5, xD6, xb1_0, q, q'] at h
    obtain ⟨r, H2, ⟨rfl, rfl⟩, h⟩ := xc_use h (sp_X10_fail _ H)
    simp (maxDischargeDepth := 12) -implicitDefEqProofs [vb_X1_takeCouple_0, vb_X1_takeCouple_21, vb_X1_takeCouple_49, vb_X1_takeCouple_53, vb_X1_takeCouple_62, vb_X1_takeCouple_81, vb_X1_takeCouple_87, vb_X1_takeCouple_98, xI_0, xI_1, xI_3, xI_7, xI_8, xI_14, xI_33, xI_36, xI_37, xI_38, xI_43, xI_45, xI_49, xI_50, xI_61, xI_62, xw_X1_takeCouple_0, xw_X1_takeCouple_21, xw_X1_takeCouple_49, xw_X1_takeCouple_53, xw_X1_takeCouple_62, xw_X1_takeCouple_81, xw_X1_takeCouple_87, xw_X1_takeCouple_98, zw_lit, xB_c, xB_s, xB_n, i1_c, j2_c, k1_c, jJ_e, xlg, xls, xla, xpd, ppush, zw_m1, zw_m2, zw_m3, gf_1_0, gf_8_3, gf_10_2, pf_10_2, tg_10_2, tg_1_0, tg_8_3, gv_1_0, gv_2_3, gv_213_2, xD1, xD2, xD3, xD4, xD5, xD6, xb1_0] at h
    exact bad _ (PF_up (Or.inr rfl)) (fun k => k.1 n8) h
  · have q : H 2 3 < 8 := by omega
    have q' : ¬ 8 ≤ H 2 3 := by omega
    have z1 : zw (a + 1) = a + 1 := zw_lit (by omega) (by omega)
    have h := call_runP 5 vm_X1_takeCouple h
    have h := xw_top (hd := []) 10 xD6_ok xc_X1_takeCouple xa_X1_takeCouple (t := 0) rfl h
    simp (maxDischargeDepth := 12) -implicitDefEqProofs [vb_X1_takeCouple_0, vb_X1_takeCouple_21, vb_X1_takeCouple_49, vb_X1_takeCouple_53, vb_X1_takeCouple_62, vb_X1_takeCouple_81, vb_X1_takeCouple_87, vb_X1_takeCouple_98, xI_0, xI_1, xI_3, xI_7, xI_8, xI_14, xI_33, xI_36, xI_37, xI_38, xI_43, xI_45, xI_49, xI_50, xI_61, xI_62, xw_X1_takeCouple_0, xw_X1_takeCouple_21, xw_X1_takeCouple_49, xw_X1_takeCouple_53, xw_X1_takeCouple_62, xw_X1_takeCouple_81, xw_X1_takeCouple_87, xw_X1_takeCouple_98, zw_lit, xB_c, xB_s, xB_n, i1_c, j2_c, k1_c, jJ_e, xlg, xls, xla, xpd, ppush, zw_m1, zw_m2, zw_m3, gf_1_0, gf_8_3, gf_10_2, pf_10_2, tg_10_2, tg_1_0, tg_8_3, gv_1_0, gv_2_3, gv_213_2, xD1, xD2, xD3, xD4, xD5, xD6, xb1_0, q, q', e2, z1, xp_at] at h
    obtain ⟨r, H1, ⟨p1, rfl, t1⟩, h⟩ := xc_use h (sp_X10_sign sz (a + 1) w _ (TP_up hT ha))
    have p1 := PF_trans (PF_up (Or.inl rfl)) p1
    by_cases s1 : cdF (nxF sz w (a + 1)) = 0
    · simp (maxDischargeDepth := 12) -implicitDefEqProofs [vb_X1_takeCouple_0, vb_X1_takeCouple_21, vb_X1_takeCouple_49, vb_X1_takeCouple_53, vb_X1_takeCouple_62, vb_X1_takeCouple_81, vb_X1_takeCouple_87, vb_X1_takeCouple_98, xI_0, xI_1, xI_3, xI_7, xI_8, xI_14, xI_33, xI_36, xI_37, xI_38, xI_43, xI_45, xI_49, xI_50, xI_61, xI_62, xw_X1_takeCouple_0, xw_X1_takeCouple_21, xw_X1_takeCouple_49, xw_X1_takeCouple_53, xw_X1_takeCouple_62, xw_X1_takeCouple_81, xw_X1_takeCouple_87, xw_X1_takeCouple_98, zw_lit, xB_c, xB_s, xB_n, i1_c, j2_c, k1_c, jJ_e, xlg, xls, xla, xpd, ppush, zw_m1, zw_m2, zw_m3, gf_1_0, gf_8_3, gf_10_2, pf_10_2, tg_10_2, tg_1_0, tg_8_3, gv_1_0, gv_2_3, gv_213_2, xD1, xD2, xD3, xD4, xD5, xD6, xb1_0, s1] at h
      exact bad _ p1 (fun k => sgP_cd.mp k.2.1 s1) h
    · simp (maxDischargeDepth := 12) -implicitDefEqProofs [vb_X1_takeCouple_0, vb_X1_takeCouple_21, vb_X1_takeCouple_49, vb_X1_takeCouple_53, vb_X1_takeCouple_62, vb_X1_takeCouple_81, vb_X1_takeCouple_87, vb_X1_takeCouple_98, xI_0, xI_1, xI_3, xI_7, xI_8, xI_14, xI_33, xI_36, xI_37, xI_38, xI_43, xI_45, xI_49, xI_50, xI_61, xI_62, xw_X1_takeCouple_0, xw_X1_takeCouple_21, xw_X1_takeCouple_49, xw_X1_takeCouple_53, xw_X1_takeCouple_62, xw_X1_takeCouple_81, xw_X1_takeCouple_87, xw_X1_takeCouple_98, zw_lit, xB_c, xB_s, xB_n, i1_c, j2_c, k1_c, jJ_e, xlg, xls, xla, xpd, ppush, zw_m1, zw_m2, zw_m3, gf_1_0, gf_8_3, gf_10_2, pf_10_2, tg_10_2, tg_1_0, tg_8_3, gv_1_0, gv_2_3, gv_213_2, xD1, xD2, xD3, xD4, xD5, xD6, xb1_0, s1] at h
      have t1 := t1 s1
      obtain ⟨r, H2, ⟨p2, rfl, t2⟩, h⟩ := xc_use h (sp_X10_sign sz _ w _ t1)
      have p2 := PF_trans p1 p2
      rw [show a + 1 + 1 = a + 2 by omega] at h t2
      by_cases s2 : cdF (nxF sz w (a + 2)) = 0
      · simp (maxDischargeDepth := 12) -implicitDefEqProofs [vb_X1_takeCouple_0, vb_X1_takeCouple_21, vb_X1_takeCouple_49, vb_X1_takeCouple_53, vb_X1_takeCouple_62, vb_X1_takeCouple_81, vb_X1_takeCouple_87, vb_X1_takeCouple_98, xI_0, xI_1, xI_3, xI_7, xI_8, xI_14, xI_33, xI_36, xI_37, xI_38, xI_43, xI_45, xI_49, xI_50, xI_61, xI_62, xw_X1_takeCouple_0, xw_X1_takeCouple_21, xw_X1_takeCouple_49, xw_X1_takeCouple_53, xw_X1_takeCouple_62, xw_X1_takeCouple_81, xw_X1_takeCouple_87, xw_X1_takeCouple_98, zw_lit, xB_c, xB_s, xB_n, i1_c, j2_c, k1_c, jJ_e, xlg, xls, xla, xpd, ppush, zw_m1, zw_m2, zw_m3, gf_1_0, gf_8_3, gf_10_2, pf_10_2, tg_10_2, tg_1_0, tg_8_3, gv_1_0, gv_2_3, gv_213_2, xD1, xD2, xD3, xD4, xD5, xD6, xb1_0, s2] at h
        exact bad _ p2 (fun k => sgP_cd.mp k.2.2.1 s2) h
      · have t2 := t2 s2
        have x2 := TXr_PF hX p2
        have d1 := cdF_oc s1
        have d2 := cdF_oc s2
        have ci := cdF_inj s1 s2
        have hc : ∀ X : PH, TXr A B X → (¬ nxF sz w (a + 1) = nxF sz w (a + 2)) → (X (4 + cdF (nxF sz w (a + 1))) (cdF (nxF sz w (a + 2))) = 1 ↔ likA B (nxF sz w (a + 1)) (nxF sz w (a + 2)) = true) := fun X xX ne => by
          have g := xX.1.2.2.2.1 (cdF (nxF sz w (a + 1))) (cdF (nxF sz w (a + 2))) d1.1 (by omega) d2.1 (by omega)
          rw [g, d1.2.2.1, d2.2.2.1]
          unfold chA
          rw [if_neg ne]
          have n1 : ¬ nxF sz w (a + 1) = 46 := by omega
          have n2 : ¬ nxF sz w (a + 2) = 46 := by omega
          by_cases l : likA B (nxF sz w (a + 1)) (nxF sz w (a + 2)) = true
          · rw [if_pos (Or.inr (Or.inr l))]
            exact ⟨fun _ => l, fun _ => rfl⟩
          · rw [if_neg (fun w => by
              rcases w with w | w | w
              · exact n1 w
              · exact n2 w
              · exact l w)]
            exact ⟨fun w => by omega, fun w => (l w).elim⟩
        by_cases s3 : nxF sz w (a + 1) = nxF sz w (a + 2)
        · have s3' := ci.mpr s3
          rw [← s3'] at h
          simp (maxDischargeDepth := 12) -implicitDefEqProofs [vb_X1_takeCouple_0, vb_X1_takeCouple_21, vb_X1_takeCouple_49, vb_X1_takeCouple_53, vb_X1_takeCouple_62, vb_X1_takeCouple_81, vb_X1_takeCouple_87, vb_X1_takeCouple_98, xI_0, xI_1, xI_3, xI_7, xI_8, xI_14, xI_33, xI_36, xI_37, xI_38, xI_43, xI_45, xI_49, xI_50, xI_61, xI_62, xw_X1_takeCouple_0, xw_X1_takeCouple_21, xw_X1_takeCouple_49, xw_X1_takeCouple_53, xw_X1_takeCouple_62, xw_X1_takeCouple_81, xw_X1_takeCouple_87, xw_X1_takeCouple_98, zw_lit, xB_c, xB_s, xB_n, i1_c, j2_c, k1_c, jJ_e, xlg, xls, xla, xpd, ppush, zw_m1, zw_m2, zw_m3, gf_1_0, gf_8_3, gf_10_2, pf_10_2, tg_10_2, tg_1_0, tg_8_3, gv_1_0, gv_2_3, gv_213_2, xD1, xD2, xD3, xD4, xD5, xD6, xb1_0, s1] at h
          obtain ⟨r, H3, ⟨rfl, rfl⟩, h⟩ := xc_use h (sp_X10_fail _ _)
          simp (maxDischargeDepth := 12) -implicitDefEqProofs [vb_X1_takeCouple_0, vb_X1_takeCouple_21, vb_X1_takeCouple_49, vb_X1_takeCouple_53, vb_X1_takeCouple_62, vb_X1_takeCouple_81, vb_X1_takeCouple_87, vb_X1_takeCouple_98, xI_0, xI_1, xI_3, xI_7, xI_8, xI_14, xI_33, xI_36, xI_37, xI_38, xI_43, xI_45, xI_49, xI_50, xI_61, xI_62, xw_X1_takeCouple_0, xw_X1_takeCouple_21, xw_X1_takeCouple_49, xw_X1_takeCouple_53, xw_X1_takeCouple_62, xw_X1_takeCouple_81, xw_X1_takeCouple_87, xw_X1_takeCouple_98, zw_lit, xB_c, xB_s, xB_n, i1_c, j2_c, k1_c, jJ_e, xlg, xls, xla, xpd, ppush, zw_m1, zw_m2, zw_m3, gf_1_0, gf_8_3, gf_10_2, pf_10_2, tg_10_2, tg_1_0, tg_8_3, gv_1_0, gv_2_3, gv_213_2, xD1, xD2, xD3, xD4, xD5, xD6, xb1_0] at h
          exact bad _ (PF_trans p2 (PF_up (Or.inr rfl))) (fun k => k.2.2.2.1 s3) h
        · have s3' : ¬ cdF (nxF sz w (a + 1)) = cdF (nxF sz w (a + 2)) := fun w => s3 (ci.mp w)
          simp (maxDischargeDepth := 12) -implicitDefEqProofs [vb_X1_takeCouple_0, vb_X1_takeCouple_21, vb_X1_takeCouple_49, vb_X1_takeCouple_53, vb_X1_takeCouple_62, vb_X1_takeCouple_81, vb_X1_takeCouple_87, vb_X1_takeCouple_98, xI_0, xI_1, xI_3, xI_7, xI_8, xI_14, xI_33, xI_36, xI_37, xI_38, xI_43, xI_45, xI_49, xI_50, xI_61, xI_62, xw_X1_takeCouple_0, xw_X1_takeCouple_21, xw_X1_takeCouple_49, xw_X1_takeCouple_53, xw_X1_takeCouple_62, xw_X1_takeCouple_81, xw_X1_takeCouple_87, xw_X1_takeCouple_98, zw_lit, xB_c, xB_s, xB_n, i1_c, j2_c, k1_c, jJ_e, xlg, xls, xla, xpd, ppush, zw_m1, zw_m2, zw_m3, gf_1_0, gf_8_3, gf_10_2, pf_10_2, tg_10_2, tg_1_0, tg_8_3, gv_1_0, gv_2_3, gv_213_2, xD1, xD2, xD3, xD4, xD5, xD6, xb1_0, s2, s3'] at h
          obtain ⟨r, H3, ⟨rfl, e9⟩, h⟩ := xc_use h (sp_X8_areLike _ _ H2 (by omega))
          rw [e9] at h
          have hl := hc H2 x2 s3
          by_cases s4 : likA B (nxF sz w (a + 1)) (nxF sz w (a + 2)) = true
          · have s4' := hl.mpr s4
            simp (maxDischargeDepth := 12) -implicitDefEqProofs [vb_X1_takeCouple_0, vb_X1_takeCouple_21, vb_X1_takeCouple_49, vb_X1_takeCouple_53, vb_X1_takeCouple_62, vb_X1_takeCouple_81, vb_X1_takeCouple_87, vb_X1_takeCouple_98, xI_0, xI_1, xI_3, xI_7, xI_8, xI_14, xI_33, xI_36, xI_37, xI_38, xI_43, xI_45, xI_49, xI_50, xI_61, xI_62, xw_X1_takeCouple_0, xw_X1_takeCouple_21, xw_X1_takeCouple_49, xw_X1_takeCouple_53, xw_X1_takeCouple_62, xw_X1_takeCouple_81, xw_X1_takeCouple_87, xw_X1_takeCouple_98, zw_lit, xB_c, xB_s, xB_n, i1_c, j2_c, k1_c, jJ_e, xlg, xls, xla, xpd, ppush, zw_m1, zw_m2, zw_m3, gf_1_0, gf_8_3, gf_10_2, pf_10_2, tg_10_2, tg_1_0, tg_8_3, gv_1_0, gv_2_3, gv_213_2, xD1, xD2, xD3, xD4, xD5, xD6, xb1_0, s4', xb1] at h
            obtain ⟨r, H3, ⟨rfl, rfl⟩, h⟩ := xc_use h (sp_X10_fail _ _)
            simp (maxDischargeDepth := 12) -implicitDefEqProofs [vb_X1_takeCouple_0, vb_X1_takeCouple_21, vb_X1_takeCouple_49, vb_X1_takeCouple_53, vb_X1_takeCouple_62, vb_X1_takeCouple_81, vb_X1_takeCouple_87, vb_X1_takeCouple_98, xI_0, xI_1, xI_3, xI_7, xI_8, xI_14, xI_33, xI_36, xI_37, xI_38, xI_43, xI_45, xI_49, xI_50, xI_61, xI_62, xw_X1_takeCouple_0, xw_X1_takeCouple_21, xw_X1_takeCouple_49, xw_X1_takeCouple_53, xw_X1_takeCouple_62, xw_X1_takeCouple_81, xw_X1_takeCouple_87, xw_X1_takeCouple_98, zw_lit, xB_c, xB_s, xB_n, i1_c, j2_c, k1_c, jJ_e, xlg, xls, xla, xpd, ppush, zw_m1, zw_m2, zw_m3, gf_1_0, gf_8_3, gf_10_2, pf_10_2, tg_10_2, tg_1_0, tg_8_3, gv_1_0, gv_2_3, gv_213_2, xD1, xD2, xD3, xD4, xD5, xD6, xb1_0] at h
            exact bad _ (PF_trans p2 (PF_up (Or.inr rfl))) (fun k => k.2.2.2.2.1 s4) h
          · have s4' : ¬ H2 (4 + cdF (nxF sz w (a + 1))) (cdF (nxF sz w (a + 2))) = 1 := fun w => s4 (hl.mp w)
            simp (maxDischargeDepth := 12) -implicitDefEqProofs [vb_X1_takeCouple_0, vb_X1_takeCouple_21, vb_X1_takeCouple_49, vb_X1_takeCouple_53, vb_X1_takeCouple_62, vb_X1_takeCouple_81, vb_X1_takeCouple_87, vb_X1_takeCouple_98, xI_0, xI_1, xI_3, xI_7, xI_8, xI_14, xI_33, xI_36, xI_37, xI_38, xI_43, xI_45, xI_49, xI_50, xI_61, xI_62, xw_X1_takeCouple_0, xw_X1_takeCouple_21, xw_X1_takeCouple_49, xw_X1_takeCouple_53, xw_X1_takeCouple_62, xw_X1_takeCouple_81, xw_X1_takeCouple_87, xw_X1_takeCouple_98, zw_lit, xB_c, xB_s, xB_n, i1_c, j2_c, k1_c, jJ_e, xlg, xls, xla, xpd, ppush, zw_m1, zw_m2, zw_m3, gf_1_0, gf_8_3, gf_10_2, pf_10_2, tg_10_2, tg_1_0, tg_8_3, gv_1_0, gv_2_3, gv_213_2, xD1, xD2, xD3, xD4, xD5, xD6, xb1_0, s4', xb1] at h
            obtain ⟨r, H3, ⟨p3, g3⟩, h⟩ := xc_use h (sp_X10_skip 59 sz _ w _ t2 (by decide))
            have p3 := PF_trans p2 p3
            rw [show a + 2 + 1 = a + 3 by omega] at g3
            rcases g3 with ⟨c3, rfl, t3⟩ | ⟨c3, rfl⟩
            · simp (maxDischargeDepth := 12) -implicitDefEqProofs [vb_X1_takeCouple_0, vb_X1_takeCouple_21, vb_X1_takeCouple_49, vb_X1_takeCouple_53, vb_X1_takeCouple_62, vb_X1_takeCouple_81, vb_X1_takeCouple_87, vb_X1_takeCouple_98, xI_0, xI_1, xI_3, xI_7, xI_8, xI_14, xI_33, xI_36, xI_37, xI_38, xI_43, xI_45, xI_49, xI_50, xI_61, xI_62, xw_X1_takeCouple_0, xw_X1_takeCouple_21, xw_X1_takeCouple_49, xw_X1_takeCouple_53, xw_X1_takeCouple_62, xw_X1_takeCouple_81, xw_X1_takeCouple_87, xw_X1_takeCouple_98, zw_lit, xB_c, xB_s, xB_n, i1_c, j2_c, k1_c, jJ_e, xlg, xls, xla, xpd, ppush, zw_m1, zw_m2, zw_m3, gf_1_0, gf_8_3, gf_10_2, pf_10_2, tg_10_2, tg_1_0, tg_8_3, gv_1_0, gv_2_3, gv_213_2, xD1, xD2, xD3, xD4, xD5, xD6, xb1_0] at h
              have x3 := TXr_PF hX p3
              have m3 : H3 2 3 = B 1 := x3.1.1.2.1.symm
              obtain ⟨r, H4, ⟨rfl, h4⟩, h⟩ := xc_use h (sp_X8_addCouple _ _ (B 1) H3 ⟨d1.1, d1.2.1⟩ ⟨d2.1, d2.2.1⟩ m3 (by omega))
              have kk : cpK sz w a B := ⟨n8, sgP_cd.mpr s1, sgP_cd.mpr s2, s3, s4, c3⟩
              have hF : ∀ c, ¬ c = 2 → ¬ (5 ≤ c ∧ c ≤ 40) → ¬ c = 42 → ¬ c = 43 → ¬ c = 213 → H4 c = H c := fun c q1 q2 q3 q4 q5 => by
                rw [h4, xp_ne (by omega), xp_ne (by omega), xp_ne q1, xp_ne q4, xp_ne q3]
                exact p3.1 c q5
              have h213 : H4 213 = H3 213 := by
                rw [h4, xp_ne (by omega), xp_ne (by omega), xp_ne (by decide), xp_ne (by decide), xp_ne (by decide)]
              refine ⟨_, _, h, ⟨fun d q1 q2 => hF d (by omega) (by omega) (by omega) (by omega) (by omega), fun i i2 i4 => by rw [hF 1 (by decide) (by decide) (by decide) (by decide) (by decide)], fun i i3 => ?_, fun i i2 i3 => by rw [h213]; exact p3.2 i i2 i3, hF 47 (by decide) (by decide) (by decide) (by decide) (by decide)⟩, Or.inl ⟨kk, rfl, ?_, ?_⟩⟩
              · rw [h4, xp_ne (by omega), xp_ne (by omega), xp_at, if_neg i3, xp_ne (by decide), xp_ne (by decide), p3.1 2 (by decide)]
              · obtain ⟨u1, u2, u3, u4, u5, u6⟩ := t3
                exact ⟨by rw [h213]; exact u1, by rw [hF 214 (by decide) (by decide) (by decide) (by decide) (by decide), ← p3.1 214 (by decide)]; exact u2, by rw [h213]; omega, by omega, by omega, u6⟩
              · refine TXr_cp hw bd.2.1 hX kk hF ?_ (fun i => ?_) (fun i => ?_) ⟨pup (pup (pup H3 42 (B 1) (cdF (nxF sz w (a + 1)))) 43 (B 1) (cdF (nxF sz w (a + 2)))) 2 3 (B 1 + 1), fun c q1 q2 => ?_, fun c q1 q2 => ?_⟩
                · rw [h4, xp_ne (by omega), xp_ne (by omega), xp_at, if_pos rfl]
                · rw [h4, xp_ne (by omega), xp_ne (by omega), xp_ne (by decide), xp_ne (by decide), xp_at, p3.1 42 (by decide)]
                · rw [h4, xp_ne (by omega), xp_ne (by omega), xp_ne (by decide), xp_at, xp_ne (by decide), p3.1 43 (by decide)]
                · rw [xp_ne (by omega), xp_ne (by omega), xp_ne (by omega)]
                  exact p3.1 c (by omega)
                · rw [h4]
            · simp (maxDischargeDepth := 12) -implicitDefEqProofs [vb_X1_takeCouple_0, vb_X1_takeCouple_21, vb_X1_takeCouple_49, vb_X1_takeCouple_53, vb_X1_takeCouple_62, vb_X1_takeCouple_81, vb_X1_takeCouple_87, vb_X1_takeCouple_98, xI_0, xI_1, xI_3, xI_7, xI_8, xI_14, xI_33, xI_36, xI_37, xI_38, xI_43, xI_45, xI_49, xI_50, xI_61, xI_62, xw_X1_takeCouple_0, xw_X1_takeCouple_21, xw_X1_takeCouple_49, xw_X1_takeCouple_53, xw_X1_takeCouple_62, xw_X1_takeCouple_81, xw_X1_takeCouple_87, xw_X1_takeCouple_98, zw_lit, xB_c, xB_s, xB_n, i1_c, j2_c, k1_c, jJ_e, xlg, xls, xla, xpd, ppush, zw_m1, zw_m2, zw_m3, gf_1_0, gf_8_3, gf_10_2, pf_10_2, tg_10_2, tg_1_0, tg_8_3, gv_1_0, gv_2_3, gv_213_2, xD1, xD2, xD3, xD4, xD5, xD6, xb1_0] at h
              exact bad _ p3 (fun k => c3 k.2.2.2.2.2) h
