/-! ===== against: both sides, to the end ===== -/
theorem CI_56 {X H : PH} {A : Int → Int} (hB : MB A) (ci : CI X A) (f : FR56 X H) : CI H A := by
  have kq : ∀ q, KL q → H q = X q ∧ H (q + 1) = X (q + 1) := fun q hq => by
    have := KL_in hq
    exact ⟨f q (by omega) (by omega) (by omega) (by omega), f _ (by omega) (by omega) (by omega) (by omega)⟩
  have kw : ∀ w, KW w → (H w 2 = X w 2 ∧ H w 3 = X w 3) ∧ H (w + 1) = X (w + 1) := fun w hw => by
    have := KWz hw
    rw [f w (by omega) (by omega) (by omega) (by omega)]
    exact ⟨⟨rfl, rfl⟩, f _ (by omega) (by omega) (by omega) (by omega)⟩
  exact CI_fr hB ci (fun c hc => f c (by omega) (by omega) (by omega) (by omega)) kq kw
theorem agI_up {A : Int → Int} {t : Int → Int} {c v x : Int} (h : x ≤ c) : agI A (xup t c v) x = agI A t x := by
  unfold agI
  refine fdS_eq _ _ _ (fun y y0 y1 => ?_)
  rw [xup_n (by omega)]
theorem hlS_mono (A : Int → Int) (h d : Int) : ∀ (m k : Nat), (hlS A h d k).1 ≤ (hlS A h d (k + m)).1
  | 0, _ => Int.le_refl _
  | m + 1, k => by
    have ih := hlS_mono A h d m k
    rw [show k + (m + 1) = (k + m) + 1 by omega]
    have e : (hlS A h d (k + m)).1 ≤ (hlS A h d (k + m + 1)).1 := by
      rw [show hlS A h d (k + m + 1) = if A (404 + 12 * ((k + m : Nat) : Int) + 1) = h ∧ A (404 + 12 * ((k + m : Nat) : Int)) = d then ((hlS A h d (k + m)).1 + 1, xup (hlS A h d (k + m)).2 (hlS A h d (k + m)).1 ((k + m : Nat) : Int)) else hlS A h d (k + m) from rfl]
      split
      · dsimp only
        omega
      · exact Int.le_refl _
    omega
def agK (A : Int → Int) (h : Int) (k : Nat) : Int → Int := flS (fun k y => if A (404 + 12 * k + 1) = h ∧ A (404 + 12 * k) = 0 then asR A (hlZ A h 1).2 (hlZ A h 1).1 k y else y) (fun k => k) k 0 (agI A (hlZ A h 1).2)
theorem agK_S (A : Int → Int) (h : Int) (k : Nat) : agK A h (k + 1) = if A (404 + 12 * (k : Int) + 1) = h ∧ A (404 + 12 * (k : Int)) = 0 then asR A (hlZ A h 1).2 (hlZ A h 1).1 k (agK A h k) else agK A h k := by
  unfold agK
  rw [flS_end, show (0 : Int) + (k : Int) = k by omega]
theorem agK_fl (A : Int → Int) (h : Int) (k : Nat) : agK A h k = flS (asR A (hlZ A h 1).2 (hlZ A h 1).1) (hlS A h 0 k).2 (hlS A h 0 k).1.toNat 0 (agI A (hlZ A h 1).2) := (hlS_fl A h 0 _ _ k).symm
theorem agK_Z (A : Int → Int) (h : Int) : agK A h (A 2).toNat (hlZ A h 1).1 = agZ A h := by
  rw [agK_fl]
  rfl
theorem agK_BD {A : Int → Int} (hB : MB A) (hX : OKX A) (h : Int) (k : Nat) (hk : (k : Int) ≤ A 2) : BD 64000 (agK A h k) (hlS A h 0 k).1 (-1) (hlZ A h 1).1 := by
  have a2 := hB.2.2.1
  have z1 := hlZ_in hB h 1
  obtain ⟨s1, s2⟩ := hlS_in A h 0 k
  have e : (((hlS A h 0 k).1.toNat : Nat) : Int) = (hlS A h 0 k).1 := by omega
  have g := fl_BD hB hX (hlZ_LT A h 1 a2.1) z1.1 (s := (hlS A h 0 k).2) (hlS A h 0 k).1.toNat (fun x x0 x1 => by
    rw [e] at x1
    have := s2 x x0 x1
    omega)
  rw [e] at g
  rw [agK_fl]
  exact g
set_option maxRecDepth 100000 in
theorem lp_ca1 (h : Int) (A : Int → Int) (X : PH) (hB : MB A) (hX : OKX A) (ci : CI X A) {E : xE} {res : xR} : ∀ (n : Nat) (k : Int) (H : PH), 0 ≤ k → k ≤ A 2 → FR56 X H → (∀ x, 0 ≤ x → x < (hlS A h 1 k.toNat).1 → H 55 x = (hlS A h 1 k.toNat).2 x) → (∀ x, 0 ≤ x → x ≤ (hlS A h 1 k.toNat).1 → H 56 x = agI A (hlS A h 1 k.toNat).2 x) → RUN E res n kd_X1_setAgainst (zget kd_X1_setAgainst 11) 11 [1, h, (hlS A h 1 k.toNat).1, k] [] H → ∃ H' : PH, FR56 X H' ∧ (∀ x, 0 ≤ x → x < (hlZ A h 1).1 → H' 55 x = (hlZ A h 1).2 x) ∧ (∀ x, 0 ≤ x → x ≤ (hlZ A h 1).1 → H' 56 x = agI A (hlZ A h 1).2 x) ∧ xJ E res n kd_X1_setAgainst 71 [1, h, (hlZ A h 1).1, 0] [] H' := by
  have a2 := hB.2.2.1
  intro n
  induction n using Nat.strongRecOn with
  | _ n ih =>
    intro k H k0 k1 hF h5 h6 hh
    have e4 : H 1 4 = A 2 := by rw [hF 1 (by decide) (by decide) (by decide) (by decide)]; exact ci.1.1.2.2.1.symm
    have z1 : zw (k + 1) = k + 1 := zw_lit (by omega) (by omega)
    by_cases c : k < A 2
    · have c' : ¬ A 2 ≤ k := by omega
      have kn : ((k.toNat : Nat) : Int) = k := by omega
      have st : (k + 1).toNat = k.toNat + 1 := by omega
      have es : hlS A h 1 (k + 1).toNat = if A (404 + 12 * k + 1) = h ∧ A (404 + 12 * k) = 1 then ((hlS A h 1 k.toNat).1 + 1, xup (hlS A h 1 k.toNat).2 (hlS A h 1 k.toNat).1 k) else hlS A h 1 k.toNat := by
        rw [st]
        rw [hlS_S]
        rw [kn]
      obtain ⟨s1, s2⟩ := hlS_in A h 1 k.toNat
      have hT : LT A (hlS A h 1 k.toNat).2 (hlS A h 1 k.toNat).1 := fun x x0 x1 => by have := s2 x x0 x1; omega
      have cH := CI_56 hB ci hF
      have kq := ci.2.2.1 k k0 (by omega)
      have bi := KL_in kq
      have ln := ci.1.2.2.1 k k0 c
      have bk := (hX.2 k k0 c).2.2
      have e47 : H 47 = X 47 := hF 47 (by decide) (by decide) (by decide) (by decide)
      have eq2 : H (X 47 k) = X (X 47 k) := hF _ (by omega) (by omega) (by omega) (by omega)
      have l2 : X (X 47 k) 2 = A (404 + 12 * k + 2) := ln.2.2.1.symm
      have hh := xw_top (hd := [11, 71]) 9 xD6_ok xc_X1_setAgainst xa_X1_setAgainst (t := 11) rfl hh
      simp (maxDischargeDepth := 12) -implicitDefEqProofs [vb_X1_setAgainst_0, vb_X1_setAgainst_11, vb_X1_setAgainst_63, vb_X1_setAgainst_69, vb_X1_setAgainst_71, vb_X1_setAgainst_100, vb_X1_setAgainst_106, xI_0, xI_1, xI_3, xI_6, xI_7, xI_14, xI_36, xI_37, xI_46, xI_49, xI_51, xI_52, xI_53, xI_60, xI_61, xI_62, xw_X1_setAgainst_0, xw_X1_setAgainst_11, xw_X1_setAgainst_63, xw_X1_setAgainst_69, xw_X1_setAgainst_71, xw_X1_setAgainst_100, xw_X1_setAgainst_106, zw_lit, xB_c, xB_s, xB_n, i1_c, j2_c, k1_c, jJ_e, xlg, xls, xla, xpd, ppush, zw_m1, zw_m2, zw_m3, gf_1_3, gf_1_4, gf_1_15, gf_1_16, tg_1_15, tg_1_16, tg_1_3, tg_1_4, gv_1_3, gv_1_4, gv_1_15, gv_1_16, xD1, xD2, xD3, xD4, xD5, xD6, xb1_0, e4, c, c'] at hh
      obtain ⟨r, H1, ⟨rfl, rfl⟩, g⟩ := xc_use hh (sp_X1_isIn k h 1 A H hB cH ⟨k0, c⟩)
      by_cases q : A (404 + 12 * k + 1) = h ∧ A (404 + 12 * k) = 1
      · have b1 : xb1 (A (404 + 12 * k + 1) = h ∧ A (404 + 12 * k) = 1) = 1 := if_pos q
        rw [b1] at g
        have zs : zw ((hlS A h 1 k.toNat).1 + 1) = (hlS A h 1 k.toNat).1 + 1 := zw_lit (by omega) (by omega)
        have r0 := h6 (hlS A h 1 k.toNat).1 s1.1 (Int.le_refl _)
        have ai := agI_in hX hT (hlS A h 1 k.toNat).1.toNat (by omega)
        have ai : 0 ≤ agI A (hlS A h 1 k.toNat).2 (hlS A h 1 k.toNat).1 ∧ agI A (hlS A h 1 k.toNat).2 (hlS A h 1 k.toNat).1 ≤ 64000 * ((hlS A h 1 k.toNat).1.toNat : Int) := ai
        have lop : zw (zw (A (404 + 12 * k + 2) * 64) + 1) = A (404 + 12 * k + 2) * 64 + 1 := by
          rw [zw_lit (x := A (404 + 12 * k + 2) * 64) (by omega) (by omega)]
          exact zw_lit (by omega) (by omega)
        have zv : zw (agI A (hlS A h 1 k.toNat).2 (hlS A h 1 k.toNat).1 + (A (404 + 12 * k + 2) * 64 + 1)) = agI A (hlS A h 1 k.toNat).2 (hlS A h 1 k.toNat).1 + (A (404 + 12 * k + 2) * 64 + 1) := zw_lit (by omega) (by omega)
        simp (maxDischargeDepth := 12) -implicitDefEqProofs [vb_X1_setAgainst_0, vb_X1_setAgainst_11, vb_X1_setAgainst_63, vb_X1_setAgainst_69, vb_X1_setAgainst_71, vb_X1_setAgainst_100, vb_X1_setAgainst_106, xI_0, xI_1, xI_3, xI_6, xI_7, xI_14, xI_36, xI_37, xI_46, xI_49, xI_51, xI_52, xI_53, xI_60, xI_61, xI_62, xw_X1_setAgainst_0, xw_X1_setAgainst_11, xw_X1_setAgainst_63, xw_X1_setAgainst_69, xw_X1_setAgainst_71, xw_X1_setAgainst_100, xw_X1_setAgainst_106, zw_lit, xB_c, xB_s, xB_n, i1_c, j2_c, k1_c, jJ_e, xlg, xls, xla, xpd, ppush, zw_m1, zw_m2, zw_m3, gf_1_3, gf_1_4, gf_1_15, gf_1_16, tg_1_15, tg_1_16, tg_1_3, tg_1_4, gv_1_3, gv_1_4, gv_1_15, gv_1_16, xD1, xD2, xD3, xD4, xD5, xD6, xb1_0, zs, xp_ne, r0, gv47, e47] at g
        obtain ⟨r, H2, ⟨rfl, rfl⟩, g⟩ := xc_use g (sp_X1_leavingOut (X 47 k) _ kq)
        have eq3 : ∀ v : Int, pup H1 55 (hlS A h 1 k.toNat).1 v (X 47 k) 2 = A (404 + 12 * k + 2) := fun v => by rw [xp_ne (by omega), eq2]; exact l2
        rw [eq3, lop] at g
        simp (maxDischargeDepth := 12) -implicitDefEqProofs [vb_X1_setAgainst_0, vb_X1_setAgainst_11, vb_X1_setAgainst_63, vb_X1_setAgainst_69, vb_X1_setAgainst_71, vb_X1_setAgainst_100, vb_X1_setAgainst_106, xI_0, xI_1, xI_3, xI_6, xI_7, xI_14, xI_36, xI_37, xI_46, xI_49, xI_51, xI_52, xI_53, xI_60, xI_61, xI_62, xw_X1_setAgainst_0, xw_X1_setAgainst_11, xw_X1_setAgainst_63, xw_X1_setAgainst_69, xw_X1_setAgainst_71, xw_X1_setAgainst_100, xw_X1_setAgainst_106, zw_lit, xB_c, xB_s, xB_n, i1_c, j2_c, k1_c, jJ_e, xlg, xls, xla, xpd, ppush, zw_m1, zw_m2, zw_m3, gf_1_3, gf_1_4, gf_1_15, gf_1_16, tg_1_15, tg_1_16, tg_1_3, tg_1_4, gv_1_3, gv_1_4, gv_1_15, gv_1_16, xD1, xD2, xD3, xD4, xD5, xD6, xb1_0, zs, z1, zv] at g
        obtain ⟨m, hm, g⟩ := g
        have es := es
        rw [if_pos q] at es
        have f1 : (hlS A h 1 (k + 1).toNat).1 = (hlS A h 1 k.toNat).1 + 1 := by rw [es]
        have f2 : (hlS A h 1 (k + 1).toNat).2 = xup (hlS A h 1 k.toNat).2 (hlS A h 1 k.toNat).1 k := by rw [es]
        obtain ⟨H', k1', k2', k3', k4'⟩ := ih m hm (k + 1) (pup (pup H1 55 (hlS A h 1 k.toNat).1 k) 56 ((hlS A h 1 k.toNat).1 + 1) (agI A (hlS A h 1 k.toNat).2 (hlS A h 1 k.toNat).1 + (A (404 + 12 * k + 2) * 64 + 1))) (by omega) (by omega) (fun d p1 p2 p3 p4 => by rw [xp_ne p4, xp_ne p3]; exact hF d p1 p2 p3 p4) (fun x x0 x1 => by
          rw [f1] at x1
          rw [f2, xp_ne (by decide), xp_at]
          unfold xup
          by_cases e : x = (hlS A h 1 k.toNat).1
          · rw [if_pos e, if_pos e]
          · rw [if_neg e, if_neg e]
            exact h5 x x0 (by omega)) (fun x x0 x1 => by
          rw [f1] at x1
          rw [f2, xp_at]
          by_cases e : x = (hlS A h 1 k.toNat).1 + 1
          · rw [if_pos e, e, agI_S s1.1, agI_up (Int.le_refl _), xup_a]
            rfl
          · rw [if_neg e, agI_up (by omega), xp_ne (by decide)]
            exact h6 x x0 (by omega)) (by rw [f1]; exact g)
        exact ⟨H', k1', k2', k3', xJ_up k4' (by omega)⟩
      · have b1 : xb1 (A (404 + 12 * k + 1) = h ∧ A (404 + 12 * k) = 1) = 0 := if_neg q
        rw [b1] at g
        have es := es
        rw [if_neg q] at es
        simp (maxDischargeDepth := 12) -implicitDefEqProofs [vb_X1_setAgainst_0, vb_X1_setAgainst_11, vb_X1_setAgainst_63, vb_X1_setAgainst_69, vb_X1_setAgainst_71, vb_X1_setAgainst_100, vb_X1_setAgainst_106, xI_0, xI_1, xI_3, xI_6, xI_7, xI_14, xI_36, xI_37, xI_46, xI_49, xI_51, xI_52, xI_53, xI_60, xI_61, xI_62, xw_X1_setAgainst_0, xw_X1_setAgainst_11, xw_X1_setAgainst_63, xw_X1_setAgainst_69, xw_X1_setAgainst_71, xw_X1_setAgainst_100, xw_X1_setAgainst_106, zw_lit, xB_c, xB_s, xB_n, i1_c, j2_c, k1_c, jJ_e, xlg, xls, xla, xpd, ppush, zw_m1, zw_m2, zw_m3, gf_1_3, gf_1_4, gf_1_15, gf_1_16, tg_1_15, tg_1_16, tg_1_3, tg_1_4, gv_1_3, gv_1_4, gv_1_15, gv_1_16, xD1, xD2, xD3, xD4, xD5, xD6, xb1_0, z1] at g
        obtain ⟨m, hm, g⟩ := g
        obtain ⟨H', k1', k2', k3', k4'⟩ := ih m hm (k + 1) H1 (by omega) (by omega) hF (by rw [es]; exact h5) (by rw [es]; exact h6) (by rw [es]; exact g)
        exact ⟨H', k1', k2', k3', xJ_up k4' (by omega)⟩
    · have c' : A 2 ≤ k := by omega
      have ek : k = A 2 := by omega
      have hh := xw_top (hd := [11, 71]) 9 xD6_ok xc_X1_setAgainst xa_X1_setAgainst (t := 11) rfl hh
      simp (maxDischargeDepth := 12) -implicitDefEqProofs [vb_X1_setAgainst_0, vb_X1_setAgainst_11, vb_X1_setAgainst_63, vb_X1_setAgainst_69, vb_X1_setAgainst_71, vb_X1_setAgainst_100, vb_X1_setAgainst_106, xI_0, xI_1, xI_3, xI_6, xI_7, xI_14, xI_36, xI_37, xI_46, xI_49, xI_51, xI_52, xI_53, xI_60, xI_61, xI_62, xw_X1_setAgainst_0, xw_X1_setAgainst_11, xw_X1_setAgainst_63, xw_X1_setAgainst_69, xw_X1_setAgainst_71, xw_X1_setAgainst_100, xw_X1_setAgainst_106, zw_lit, xB_c, xB_s, xB_n, i1_c, j2_c, k1_c, jJ_e, xlg, xls, xla, xpd, ppush, zw_m1, zw_m2, zw_m3, gf_1_3, gf_1_4, gf_1_15, gf_1_16, tg_1_15, tg_1_16, tg_1_3, tg_1_4, gv_1_3, gv_1_4, gv_1_15, gv_1_16, xD1, xD2, xD3, xD4, xD5, xD6, xb1_0, e4, c, c'] at hh
      rw [ek] at h5 h6 hh
      exact ⟨H, hF, h5, h6, hh⟩
set_option maxRecDepth 100000 in
theorem lp_ca2 (h : Int) (A : Int → Int) (X : PH) (hB : MB A) (hX : OKX A) (ci : CI X A) {E : xE} {res : xR} : ∀ (n : Nat) (k : Int) (H : PH), 0 ≤ k → k ≤ A 2 → FR56 X H → (∀ x, 0 ≤ x → x < (hlZ A h 1).1 → H 55 x = (hlZ A h 1).2 x) → (∀ x, 0 ≤ x → x ≤ (hlZ A h 1).1 → H 56 x = agK A h k.toNat x) → RUN E res n kd_X1_setAgainst (zget kd_X1_setAgainst 71) 71 [1, h, (hlZ A h 1).1, k] [] H → ∃ H' : PH, FR56 X H' ∧ REPR E res (some (0, agZ A h)) H' := by
  have a2 := hB.2.2.1
  have zj := hlZ_in hB h 1
  have tw : (hlZ A h 0).1 + (hlZ A h 1).1 ≤ ((A 2).toNat : Int) := hlS_two A h (A 2).toNat
  intro n
  induction n using Nat.strongRecOn with
  | _ n ih =>
    intro k H k0 k1 hF h5 h6 hh
    have e4 : H 1 4 = A 2 := by rw [hF 1 (by decide) (by decide) (by decide) (by decide)]; exact ci.1.1.2.2.1.symm
    have z1 : zw (k + 1) = k + 1 := zw_lit (by omega) (by omega)
    by_cases c : k < A 2
    · have c' : ¬ A 2 ≤ k := by omega
      have kn : ((k.toNat : Nat) : Int) = k := by omega
      have st : (k + 1).toNat = k.toNat + 1 := by omega
      have es := agK_S A h k.toNat
      rw [kn, ← st] at es
      have cH := CI_56 hB ci hF
      have e47 : H 47 = X 47 := hF 47 (by decide) (by decide) (by decide) (by decide)
      have hh := xw_top (hd := [71]) 9 xD6_ok xc_X1_setAgainst xa_X1_setAgainst (t := 71) rfl hh
      simp (maxDischargeDepth := 12) -implicitDefEqProofs [vb_X1_setAgainst_0, vb_X1_setAgainst_11, vb_X1_setAgainst_63, vb_X1_setAgainst_69, vb_X1_setAgainst_71, vb_X1_setAgainst_100, vb_X1_setAgainst_106, xI_0, xI_1, xI_3, xI_6, xI_7, xI_14, xI_36, xI_37, xI_46, xI_49, xI_51, xI_52, xI_53, xI_60, xI_61, xI_62, xw_X1_setAgainst_0, xw_X1_setAgainst_11, xw_X1_setAgainst_63, xw_X1_setAgainst_69, xw_X1_setAgainst_71, xw_X1_setAgainst_100, xw_X1_setAgainst_106, zw_lit, xB_c, xB_s, xB_n, i1_c, j2_c, k1_c, jJ_e, xlg, xls, xla, xpd, ppush, zw_m1, zw_m2, zw_m3, gf_1_3, gf_1_4, gf_1_15, gf_1_16, tg_1_15, tg_1_16, tg_1_3, tg_1_4, gv_1_3, gv_1_4, gv_1_15, gv_1_16, xD1, xD2, xD3, xD4, xD5, xD6, xb1_0, e4, c, c'] at hh
      obtain ⟨r, H1, ⟨rfl, rfl⟩, g⟩ := xc_use hh (sp_X1_isIn k h 0 A H hB cH ⟨k0, c⟩)
      by_cases q : A (404 + 12 * k + 1) = h ∧ A (404 + 12 * k) = 0
      · have b1 : xb1 (A (404 + 12 * k + 1) = h ∧ A (404 + 12 * k) = 0) = 1 := if_pos q
        rw [b1] at g
        rw [if_pos q] at es
        have bd := agK_BD hB hX h k.toNat (by omega)
        obtain ⟨s1, s2⟩ := hlS_in A h 0 k.toNat
        have up : (hlS A h 0 k.toNat).1 + 1 ≤ (hlZ A h 0).1 := by
          have m1 := hlS_mono A h 0 ((A 2).toNat - (k.toNat + 1)) (k.toNat + 1)
          rw [show k.toNat + 1 + ((A 2).toNat - (k.toNat + 1)) = (A 2).toNat by omega] at m1
          have m2 : (hlS A h 0 (k.toNat + 1)).1 = (hlS A h 0 k.toNat).1 + 1 := by
            rw [show hlS A h 0 (k.toNat + 1) = if A (404 + 12 * ((k.toNat : Nat) : Int) + 1) = h ∧ A (404 + 12 * ((k.toNat : Nat) : Int)) = 0 then ((hlS A h 0 k.toNat).1 + 1, xup (hlS A h 0 k.toNat).2 (hlS A h 0 k.toNat).1 ((k.toNat : Nat) : Int)) else hlS A h 0 k.toNat from rfl, kn, if_pos q]
          rw [m2] at m1
          exact m1
        simp (maxDischargeDepth := 12) -implicitDefEqProofs [vb_X1_setAgainst_0, vb_X1_setAgainst_11, vb_X1_setAgainst_63, vb_X1_setAgainst_69, vb_X1_setAgainst_71, vb_X1_setAgainst_100, vb_X1_setAgainst_106, xI_0, xI_1, xI_3, xI_6, xI_7, xI_14, xI_36, xI_37, xI_46, xI_49, xI_51, xI_52, xI_53, xI_60, xI_61, xI_62, xw_X1_setAgainst_0, xw_X1_setAgainst_11, xw_X1_setAgainst_63, xw_X1_setAgainst_69, xw_X1_setAgainst_71, xw_X1_setAgainst_100, xw_X1_setAgainst_106, zw_lit, xB_c, xB_s, xB_n, i1_c, j2_c, k1_c, jJ_e, xlg, xls, xla, xpd, ppush, zw_m1, zw_m2, zw_m3, gf_1_3, gf_1_4, gf_1_15, gf_1_16, tg_1_15, tg_1_16, tg_1_3, tg_1_4, gv_1_3, gv_1_4, gv_1_15, gv_1_16, xD1, xD2, xD3, xD4, xD5, xD6, xb1_0, gv47, e47] at g
        obtain ⟨r, H2, ⟨rfl, f1, f5, f6⟩, g⟩ := xc_use g (sp_X1_setAgainstShore k (hlZ A h 1).1 (hlS A h 0 k.toNat).1 (hlZ A h 1).2 (agK A h k.toNat) A X H1 hB hX ci ⟨k0, c⟩ (hlZ_LT A h 1 a2.1) s1.1 (by omega) zj.1 bd hF h5 h6)
        simp (maxDischargeDepth := 12) -implicitDefEqProofs [vb_X1_setAgainst_0, vb_X1_setAgainst_11, vb_X1_setAgainst_63, vb_X1_setAgainst_69, vb_X1_setAgainst_71, vb_X1_setAgainst_100, vb_X1_setAgainst_106, xI_0, xI_1, xI_3, xI_6, xI_7, xI_14, xI_36, xI_37, xI_46, xI_49, xI_51, xI_52, xI_53, xI_60, xI_61, xI_62, xw_X1_setAgainst_0, xw_X1_setAgainst_11, xw_X1_setAgainst_63, xw_X1_setAgainst_69, xw_X1_setAgainst_71, xw_X1_setAgainst_100, xw_X1_setAgainst_106, zw_lit, xB_c, xB_s, xB_n, i1_c, j2_c, k1_c, jJ_e, xlg, xls, xla, xpd, ppush, zw_m1, zw_m2, zw_m3, gf_1_3, gf_1_4, gf_1_15, gf_1_16, tg_1_15, tg_1_16, tg_1_3, tg_1_4, gv_1_3, gv_1_4, gv_1_15, gv_1_16, xD1, xD2, xD3, xD4, xD5, xD6, xb1_0, z1] at g
        obtain ⟨m, hm, g⟩ := g
        exact ih m hm (k + 1) H2 (by omega) (by omega) f1 f5 (by rw [es]; exact f6) g
      · have b1 : xb1 (A (404 + 12 * k + 1) = h ∧ A (404 + 12 * k) = 0) = 0 := if_neg q
        rw [b1] at g
        rw [if_neg q] at es
        simp (maxDischargeDepth := 12) -implicitDefEqProofs [vb_X1_setAgainst_0, vb_X1_setAgainst_11, vb_X1_setAgainst_63, vb_X1_setAgainst_69, vb_X1_setAgainst_71, vb_X1_setAgainst_100, vb_X1_setAgainst_106, xI_0, xI_1, xI_3, xI_6, xI_7, xI_14, xI_36, xI_37, xI_46, xI_49, xI_51, xI_52, xI_53, xI_60, xI_61, xI_62, xw_X1_setAgainst_0, xw_X1_setAgainst_11, xw_X1_setAgainst_63, xw_X1_setAgainst_69, xw_X1_setAgainst_71, xw_X1_setAgainst_100, xw_X1_setAgainst_106, zw_lit, xB_c, xB_s, xB_n, i1_c, j2_c, k1_c, jJ_e, xlg, xls, xla, xpd, ppush, zw_m1, zw_m2, zw_m3, gf_1_3, gf_1_4, gf_1_15, gf_1_16, tg_1_15, tg_1_16, tg_1_3, tg_1_4, gv_1_3, gv_1_4, gv_1_15, gv_1_16, xD1, xD2, xD3, xD4, xD5, xD6, xb1_0, z1] at g
        obtain ⟨m, hm, g⟩ := g
        exact ih m hm (k + 1) H1 (by omega) (by omega) hF h5 (by rw [es]; exact h6) g
    · have c' : A 2 ≤ k := by omega
      have ek : k = A 2 := by omega
      have r := h6 (hlZ A h 1).1 zj.1 (Int.le_refl _)
      rw [ek, agK_Z] at r
      have hh := xw_top (hd := [71]) 9 xD6_ok xc_X1_setAgainst xa_X1_setAgainst (t := 71) rfl hh
      simp (maxDischargeDepth := 12) -implicitDefEqProofs [vb_X1_setAgainst_0, vb_X1_setAgainst_11, vb_X1_setAgainst_63, vb_X1_setAgainst_69, vb_X1_setAgainst_71, vb_X1_setAgainst_100, vb_X1_setAgainst_106, xI_0, xI_1, xI_3, xI_6, xI_7, xI_14, xI_36, xI_37, xI_46, xI_49, xI_51, xI_52, xI_53, xI_60, xI_61, xI_62, xw_X1_setAgainst_0, xw_X1_setAgainst_11, xw_X1_setAgainst_63, xw_X1_setAgainst_69, xw_X1_setAgainst_71, xw_X1_setAgainst_100, xw_X1_setAgainst_106, zw_lit, xB_c, xB_s, xB_n, i1_c, j2_c, k1_c, jJ_e, xlg, xls, xla, xpd, ppush, zw_m1, zw_m2, zw_m3, gf_1_3, gf_1_4, gf_1_15, gf_1_16, tg_1_15, tg_1_16, tg_1_3, tg_1_4, gv_1_3, gv_1_4, gv_1_15, gv_1_16, xD1, xD2, xD3, xD4, xD5, xD6, xb1_0, e4, c, c', r] at hh
      exact ⟨H, hF, hh⟩
set_option maxRecDepth 100000 in
theorem sp_X1_setAgainst (h : Int) (A : Int → Int) (X : PH) (hB : MB A) (hX : OKX A) (ci : CI X A) : SPEC 27 [(2, 1), (0, h)] X (fun r H' => r = some (0, agZ A h) ∧ FR56 X H') := by
  intro E n res hh
  have z : hlS A h 1 (0 : Int).toNat = (0, fun _ => 0) := rfl
  have hh := call_runP 4 vm_X1_setAgainst hh
  have hh := xw_top (hd := [11, 71]) 9 xD6_ok xc_X1_setAgainst xa_X1_setAgainst (t := 0) rfl hh
  simp (maxDischargeDepth := 12) -implicitDefEqProofs [vb_X1_setAgainst_0, vb_X1_setAgainst_11, vb_X1_setAgainst_63, vb_X1_setAgainst_69, vb_X1_setAgainst_71, vb_X1_setAgainst_100, vb_X1_setAgainst_106, xI_0, xI_1, xI_3, xI_6, xI_7, xI_14, xI_36, xI_37, xI_46, xI_49, xI_51, xI_52, xI_53, xI_60, xI_61, xI_62, xw_X1_setAgainst_0, xw_X1_setAgainst_11, xw_X1_setAgainst_63, xw_X1_setAgainst_69, xw_X1_setAgainst_71, xw_X1_setAgainst_100, xw_X1_setAgainst_106, zw_lit, xB_c, xB_s, xB_n, i1_c, j2_c, k1_c, jJ_e, xlg, xls, xla, xpd, ppush, zw_m1, zw_m2, zw_m3, gf_1_3, gf_1_4, gf_1_15, gf_1_16, tg_1_15, tg_1_16, tg_1_3, tg_1_4, gv_1_3, gv_1_4, gv_1_15, gv_1_16, xD1, xD2, xD3, xD4, xD5, xD6, xb1_0] at hh
  obtain ⟨m, hm, hh⟩ := hh
  obtain ⟨H1, f1, f5, f6, m2, hm2, hh⟩ := lp_ca1 h A X hB hX ci m 0 _ (by omega) hB.2.2.1.1 (fun d p1 p2 p3 p4 => xp_ne p4) (fun x x0 x1 => by
    rw [z] at x1
    have x1 : x < 0 := x1
    omega) (fun x x0 x1 => by
    rw [z] at x1 ⊢
    have x1 : x ≤ 0 := x1
    have e : x = 0 := by omega
    rw [e, xp_at, if_pos rfl]
    rfl) hh
  obtain ⟨H2, g1, hh⟩ := lp_ca2 h A X hB hX ci m2 0 H1 (by omega) hB.2.2.1.1 f1 f5 f6 hh
  exact ⟨_, H2, hh, rfl, g1⟩
set_option maxRecDepth 100000 in
theorem sp_c_against (u w : Int) (S : Int → Int → Int) (n : Int) (H : PH) (hR : RC H S n) (hM : MCC (S 0) H) : SPEC 128 [(2, 0), (0, u), (0, w)] H (fun r H' => r = some (0, agQ (S 0) u w) ∧ CQ H H' S n) := by
  intro E n' res h
  obtain ⟨e0, e2, z0, z2, a0, a2⟩ := RC_12 hR
  have ok0 := RC_sz hR
  by_cases qu : 0 ≤ u ∧ u ≤ 4
  · have u0 := qu.1
    have u1 := qu.2
    have u2 : ¬ u < 0 := by omega
    have u3 : ¬ 4 < u := by omega
    by_cases qw : 0 ≤ w ∧ w ≤ 1
    · have w0 := qw.1
      have w1 := qw.2
      have w2 : ¬ w < 0 := by omega
      have w3 : ¬ 1 < w := by omega
      have hq : (0 ≤ u ∧ u ≤ 4) ∧ (0 ≤ w ∧ w ≤ 1) := by omega
      have ai := agZ_in ok0.1 ok0.2.2.2 u
      have d1 : q2 (· / ·) (agZ (S 0) u) 64 = agZ (S 0) u / 64 := q2_div (by omega) (by omega) (by decide) (by decide)
      have d2 : q2 (fun x y => x - x / y * y) (agZ (S 0) u) 64 = agZ (S 0) u % 64 := q2_rem (by omega) (by omega) (by decide) (by decide)
      by_cases c : w = 0
      · have h := call_runP 3 vm_X11_against h
        have h := xw_top (hd := []) 7 xD6_ok xc_X11_against xa_X11_against (t := 0) rfl h
        simp (maxDischargeDepth := 12) -implicitDefEqProofs [vb_X11_against_0, vb_X11_against_16, vb_X11_against_18, vb_X11_against_36, vb_X11_against_47, xI_0, xI_1, xI_7, xI_8, xI_17, xI_18, xI_36, xI_37, xI_38, xI_49, xI_60, xI_61, xI_62, xw_X11_against_0, xw_X11_against_16, xw_X11_against_18, xw_X11_against_36, xw_X11_against_47, zw_lit, xB_c, xB_s, xB_n, i1_c, j2_c, k1_c, jJ_e, xlg, xls, xla, xpd, ppush, zw_m1, zw_m2, zw_m3, gf_11_0, tg_11_0, gv_0_0, xD1, xD2, xD3, xD4, xD5, xD6, xb1_0, u0, u1, u2, u3, w0, w1, w2, w3, c] at h
        obtain ⟨r, H1, ⟨rfl, f⟩, g⟩ := xc_use h (sp_X1_setAgainst u (S 0) _ ok0.1 ok0.2.2.2 hR.1)
        simp (maxDischargeDepth := 12) -implicitDefEqProofs [vb_X11_against_0, vb_X11_against_16, vb_X11_against_18, vb_X11_against_36, vb_X11_against_47, xI_0, xI_1, xI_7, xI_8, xI_17, xI_18, xI_36, xI_37, xI_38, xI_49, xI_60, xI_61, xI_62, xw_X11_against_0, xw_X11_against_16, xw_X11_against_18, xw_X11_against_36, xw_X11_against_47, zw_lit, xB_c, xB_s, xB_n, i1_c, j2_c, k1_c, jJ_e, xlg, xls, xla, xpd, ppush, zw_m1, zw_m2, zw_m3, gf_11_0, tg_11_0, gv_0_0, xD1, xD2, xD3, xD4, xD5, xD6, xb1_0, d1] at g
        exact ⟨_, H1, g, by unfold agQ; rw [if_pos hq, if_pos c], CQ_56 (CQ_refl hR hM) f⟩
      · have h := call_runP 3 vm_X11_against h
        have h := xw_top (hd := []) 7 xD6_ok xc_X11_against xa_X11_against (t := 0) rfl h
        simp (maxDischargeDepth := 12) -implicitDefEqProofs [vb_X11_against_0, vb_X11_against_16, vb_X11_against_18, vb_X11_against_36, vb_X11_against_47, xI_0, xI_1, xI_7, xI_8, xI_17, xI_18, xI_36, xI_37, xI_38, xI_49, xI_60, xI_61, xI_62, xw_X11_against_0, xw_X11_against_16, xw_X11_against_18, xw_X11_against_36, xw_X11_against_47, zw_lit, xB_c, xB_s, xB_n, i1_c, j2_c, k1_c, jJ_e, xlg, xls, xla, xpd, ppush, zw_m1, zw_m2, zw_m3, gf_11_0, tg_11_0, gv_0_0, xD1, xD2, xD3, xD4, xD5, xD6, xb1_0, u0, u1, u2, u3, w0, w1, w2, w3, c] at h
        obtain ⟨r, H1, ⟨rfl, f⟩, g⟩ := xc_use h (sp_X1_setAgainst u (S 0) _ ok0.1 ok0.2.2.2 hR.1)
        simp (maxDischargeDepth := 12) -implicitDefEqProofs [vb_X11_against_0, vb_X11_against_16, vb_X11_against_18, vb_X11_against_36, vb_X11_against_47, xI_0, xI_1, xI_7, xI_8, xI_17, xI_18, xI_36, xI_37, xI_38, xI_49, xI_60, xI_61, xI_62, xw_X11_against_0, xw_X11_against_16, xw_X11_against_18, xw_X11_against_36, xw_X11_against_47, zw_lit, xB_c, xB_s, xB_n, i1_c, j2_c, k1_c, jJ_e, xlg, xls, xla, xpd, ppush, zw_m1, zw_m2, zw_m3, gf_11_0, tg_11_0, gv_0_0, xD1, xD2, xD3, xD4, xD5, xD6, xb1_0, d2] at g
        exact ⟨_, H1, g, by unfold agQ; rw [if_pos hq, if_neg c], CQ_56 (CQ_refl hR hM) f⟩
    · by_cases w0 : 0 ≤ w
      · have w1 : ¬ w ≤ 1 := by omega
        have w2 : ¬ w < 0 := by omega
        have w3 : 1 < w := by omega
        have h := call_runP 3 vm_X11_against h
        have h := xw_top (hd := []) 7 xD6_ok xc_X11_against xa_X11_against (t := 0) rfl h
        simp (maxDischargeDepth := 12) -implicitDefEqProofs [vb_X11_against_0, vb_X11_against_16, vb_X11_against_18, vb_X11_against_36, vb_X11_against_47, xI_0, xI_1, xI_7, xI_8, xI_17, xI_18, xI_36, xI_37, xI_38, xI_49, xI_60, xI_61, xI_62, xw_X11_against_0, xw_X11_against_16, xw_X11_against_18, xw_X11_against_36, xw_X11_against_47, zw_lit, xB_c, xB_s, xB_n, i1_c, j2_c, k1_c, jJ_e, xlg, xls, xla, xpd, ppush, zw_m1, zw_m2, zw_m3, gf_11_0, tg_11_0, gv_0_0, xD1, xD2, xD3, xD4, xD5, xD6, xb1_0, u0, u1, u2, u3, w0, w1, w2, w3] at h
        exact ⟨_, _, h, by unfold agQ; rw [if_neg (by omega)], CQ_refl hR hM⟩
      · have w2 : w < 0 := by omega
        have h := call_runP 3 vm_X11_against h
        have h := xw_top (hd := []) 7 xD6_ok xc_X11_against xa_X11_against (t := 0) rfl h
        simp (maxDischargeDepth := 12) -implicitDefEqProofs [vb_X11_against_0, vb_X11_against_16, vb_X11_against_18, vb_X11_against_36, vb_X11_against_47, xI_0, xI_1, xI_7, xI_8, xI_17, xI_18, xI_36, xI_37, xI_38, xI_49, xI_60, xI_61, xI_62, xw_X11_against_0, xw_X11_against_16, xw_X11_against_18, xw_X11_against_36, xw_X11_against_47, zw_lit, xB_c, xB_s, xB_n, i1_c, j2_c, k1_c, jJ_e, xlg, xls, xla, xpd, ppush, zw_m1, zw_m2, zw_m3, gf_11_0, tg_11_0, gv_0_0, xD1, xD2, xD3, xD4, xD5, xD6, xb1_0, u0, u1, u2, u3, w0, w2] at h
        exact ⟨_, _, h, by unfold agQ; rw [if_neg (by omega)], CQ_refl hR hM⟩
  · by_cases u0 : 0 ≤ u
    · have u1 : ¬ u ≤ 4 := by omega
      have u2 : ¬ u < 0 := by omega
      have u3 : 4 < u := by omega
      have h := call_runP 3 vm_X11_against h
      have h := xw_top (hd := []) 7 xD6_ok xc_X11_against xa_X11_against (t := 0) rfl h
      simp (maxDischargeDepth := 12) -implicitDefEqProofs [vb_X11_against_0, vb_X11_against_16, vb_X11_against_18, vb_X11_against_36, vb_X11_against_47, xI_0, xI_1, xI_7, xI_8, xI_17, xI_18, xI_36, xI_37, xI_38, xI_49, xI_60, xI_61, xI_62, xw_X11_against_0, xw_X11_against_16, xw_X11_against_18, xw_X11_against_36, xw_X11_against_47, zw_lit, xB_c, xB_s, xB_n, i1_c, j2_c, k1_c, jJ_e, xlg, xls, xla, xpd, ppush, zw_m1, zw_m2, zw_m3, gf_11_0, tg_11_0, gv_0_0, xD1, xD2, xD3, xD4, xD5, xD6, xb1_0, u0, u1, u2, u3] at h
      exact ⟨_, _, h, by unfold agQ; rw [if_neg (by omega)], CQ_refl hR hM⟩
    · have u2 : u < 0 := by omega
      have h := call_runP 3 vm_X11_against h
      have h := xw_top (hd := []) 7 xD6_ok xc_X11_against xa_X11_against (t := 0) rfl h
      simp (maxDischargeDepth := 12) -implicitDefEqProofs [vb_X11_against_0, vb_X11_against_16, vb_X11_against_18, vb_X11_against_36, vb_X11_against_47, xI_0, xI_1, xI_7, xI_8, xI_17, xI_18, xI_36, xI_37, xI_38, xI_49, xI_60, xI_61, xI_62, xw_X11_against_0, xw_X11_against_16, xw_X11_against_18, xw_X11_against_36, xw_X11_against_47, zw_lit, xB_c, xB_s, xB_n, i1_c, j2_c, k1_c, jJ_e, xlg, xls, xla, xpd, ppush, zw_m1, zw_m2, zw_m3, gf_11_0, tg_11_0, gv_0_0, xD1, xD2, xD3, xD4, xD5, xD6, xb1_0, u0, u2] at h
      exact ⟨_, _, h, by unfold agQ; rw [if_neg (by omega)], CQ_refl hR hM⟩
/-! the model's -/
set_option maxRecDepth 100000 in
theorem sp_X12_standing (p q : Int) (A : Int → Int) (H : PH) (hA : H 591 = A) (hB : MB A) (hX : OKX A) (hp : 0 ≤ p ∧ p < A 2) (hq : 0 ≤ q ∧ q < A 2) : SPEC 237 [(2, 590), (0, p), (0, q)] H (fun r H' => r = some (0, asC A p q) ∧ ∀ c, ¬ c = 599 → H' c = H c) := by
  intro E n res h
  have a2 := hB.2.2.1
  have bp := (hX.2 p hp.1 hp.2).2.2
  have bq := (hX.2 q hq.1 hq.2).2.2
  have lp := hB.2.2.2.2.2.1 p hp.1 (by omega)
  have lq := hB.2.2.2.2.2.1 q hq.1 (by omega)
  have ll := llA_in hB hp hq
  have yp1 : zw (12 * p) = 12 * p := zw_lit (by omega) (by omega)
  have yp2 : zw (404 + 12 * p) = 404 + 12 * p := zw_lit (by omega) (by omega)
  have yp3 : zw (404 + 12 * p + 3) = 404 + 12 * p + 3 := zw_lit (by omega) (by omega)
  have yp4 : zw (404 + 12 * p + 4) = 404 + 12 * p + 4 := zw_lit (by omega) (by omega)
  have yp5 : zw (404 + 12 * p + 2) = 404 + 12 * p + 2 := zw_lit (by omega) (by omega)
  have yq1 : zw (12 * q) = 12 * q := zw_lit (by omega) (by omega)
  have yq2 : zw (404 + 12 * q) = 404 + 12 * q := zw_lit (by omega) (by omega)
  have yq3 : zw (404 + 12 * q + 3) = 404 + 12 * q + 3 := zw_lit (by omega) (by omega)
  have yq4 : zw (404 + 12 * q + 4) = 404 + 12 * q + 4 := zw_lit (by omega) (by omega)
  have yq5 : zw (404 + 12 * q + 2) = 404 + 12 * q + 2 := zw_lit (by omega) (by omega)
  have ap := sp_X12_apartOf (404 + 12 * p + 3) (404 + 12 * p + 4) (404 + 12 * q + 3) (404 + 12 * q + 4) H (by omega) (by rw [hA]; exact lp) (by rw [hA]; exact lq) (by rw [hA]; exact hB.2.1)
  rw [hA] at ap
  by_cases s : 0 ≤ A (404 + 12 * p + 2) - A (404 + 12 * q + 2)
  · obtain ⟨d, hd⟩ : ∃ d, d = A (404 + 12 * p + 2) - A (404 + 12 * q + 2) := ⟨_, rfl⟩
    have zd : zw (A (404 + 12 * p + 2) - A (404 + 12 * q + 2)) = d := by rw [hd]; exact zw_lit (by omega) (by omega)
    have dn : 0 ≤ d := by omega
    have dn' : ¬ d < 0 := by omega
    have zs : zw (d + apA A (404 + 12 * p + 3) (404 + 12 * p + 4) (404 + 12 * q + 3) (404 + 12 * q + 4)) = d + llA A p q := zw_lit (by unfold llA at ll; omega) (by unfold llA at ll; omega)
    have ev : asC A p q = d + llA A p q := by unfold asC bqA; rw [← hd, if_pos dn]
    have h := call_runP 4 vm_X12_standing h
    have h := xw_top (hd := []) 5 xD6_ok xc_X12_standing xa_X12_standing (t := 0) rfl h
    simp (maxDischargeDepth := 12) -implicitDefEqProofs [vb_X12_standing_0, vb_X12_standing_21, vb_X12_standing_22, xI_0, xI_1, xI_3, xI_7, xI_14, xI_15, xI_25, xI_36, xI_40, xI_60, xI_61, xI_62, xw_X12_standing_0, xw_X12_standing_21, xw_X12_standing_22, zw_lit, xB_c, xB_s, xB_n, i1_c, j2_c, k1_c, jJ_e, xlg, xls, xla, xpd, ppush, zw_m1, zw_m2, zw_m3, xD1, xD2, xD3, xD4, xD5, xD6, xb1_0, hA, yp1, yp2, yp3, yp4, yp5, yq1, yq2, yq3, yq4, yq5, zd, dn, dn'] at h
    obtain ⟨r, H1, ⟨rfl, hf⟩, g⟩ := xc_use h ap
    simp (maxDischargeDepth := 12) -implicitDefEqProofs [vb_X12_standing_0, vb_X12_standing_21, vb_X12_standing_22, xI_0, xI_1, xI_3, xI_7, xI_14, xI_15, xI_25, xI_36, xI_40, xI_60, xI_61, xI_62, xw_X12_standing_0, xw_X12_standing_21, xw_X12_standing_22, zw_lit, xB_c, xB_s, xB_n, i1_c, j2_c, k1_c, jJ_e, xlg, xls, xla, xpd, ppush, zw_m1, zw_m2, zw_m3, xD1, xD2, xD3, xD4, xD5, xD6, xb1_0, zs] at g
    exact ⟨_, H1, g, by rw [ev], hf⟩
  · obtain ⟨d, hd⟩ : ∃ d, d = A (404 + 12 * p + 2) - A (404 + 12 * q + 2) := ⟨_, rfl⟩
    have zd : zw (A (404 + 12 * p + 2) - A (404 + 12 * q + 2)) = d := by rw [hd]; exact zw_lit (by omega) (by omega)
    have dn : ¬ 0 ≤ d := by omega
    have dn' : d < 0 := by omega
    have ng : q1 (fun x => -x) d = -d := ng_q1 (by omega) (by omega)
    have zs : zw (-d + apA A (404 + 12 * p + 3) (404 + 12 * p + 4) (404 + 12 * q + 3) (404 + 12 * q + 4)) = -d + llA A p q := zw_lit (by unfold llA at ll; omega) (by unfold llA at ll; omega)
    have ev : asC A p q = -d + llA A p q := by unfold asC bqA; rw [← hd, if_neg dn]
    have h := call_runP 4 vm_X12_standing h
    have h := xw_top (hd := []) 5 xD6_ok xc_X12_standing xa_X12_standing (t := 0) rfl h
    simp (maxDischargeDepth := 12) -implicitDefEqProofs [vb_X12_standing_0, vb_X12_standing_21, vb_X12_standing_22, xI_0, xI_1, xI_3, xI_7, xI_14, xI_15, xI_25, xI_36, xI_40, xI_60, xI_61, xI_62, xw_X12_standing_0, xw_X12_standing_21, xw_X12_standing_22, zw_lit, xB_c, xB_s, xB_n, i1_c, j2_c, k1_c, jJ_e, xlg, xls, xla, xpd, ppush, zw_m1, zw_m2, zw_m3, xD1, xD2, xD3, xD4, xD5, xD6, xb1_0, hA, yp1, yp2, yp3, yp4, yp5, yq1, yq2, yq3, yq4, yq5, zd, dn, dn', ng] at h
    obtain ⟨r, H1, ⟨rfl, hf⟩, g⟩ := xc_use h ap
    simp (maxDischargeDepth := 12) -implicitDefEqProofs [vb_X12_standing_0, vb_X12_standing_21, vb_X12_standing_22, xI_0, xI_1, xI_3, xI_7, xI_14, xI_15, xI_25, xI_36, xI_40, xI_60, xI_61, xI_62, xw_X12_standing_0, xw_X12_standing_21, xw_X12_standing_22, zw_lit, xB_c, xB_s, xB_n, i1_c, j2_c, k1_c, jJ_e, xlg, xls, xla, xpd, ppush, zw_m1, zw_m2, zw_m3, xD1, xD2, xD3, xD4, xD5, xD6, xb1_0, zs] at g
    exact ⟨_, H1, g, by rw [ev], hf⟩
set_option maxRecDepth 100000 in
theorem sp_X12_offers (c l : Int) (H : PH) : SPEC 238 [(2, 590), (0, c), (0, l)] H (fun r H' => r = none ∧ SCm [] [41, 42] H H' ∧ ((H' 590 41 = H 590 41 ∧ H' 590 42 = H 590 42) ∨ (H' 590 41 = c ∧ H' 590 42 = l)) ∧ ((0 ≤ H 590 42 ∧ H 590 42 < 64) → (0 ≤ l ∧ l < 64) → H' 590 41 * 64 + H' 590 42 = min (H 590 41 * 64 + H 590 42) (c * 64 + l))) := by
  intro E n res h
  have fr : ∀ u v : Int, SCm [] [41, 42] H (pup (pup H 590 41 u) 590 42 v) := fun u v => SCm_trans (SCm_fld (by decide)) (SCm_fld (by decide))
  have e1 : ∀ u v : Int, pup (pup H 590 41 u) 590 42 v 590 41 = u := fun u v => by rw [xp_at, if_neg (by decide), xp_at, if_pos rfl]
  have e2 : ∀ u v : Int, pup (pup H 590 41 u) 590 42 v 590 42 = v := fun u v => by rw [xp_at, if_pos rfl]
  by_cases q1 : H 590 41 < c
  · have q2 : ¬ c ≤ H 590 41 := by omega
    have h := call_runP 3 vm_X12_offers h
    have h := xw_top (hd := []) 5 xD6_ok xc_X12_offers xa_X12_offers (t := 0) rfl h
    simp (maxDischargeDepth := 12) -implicitDefEqProofs [vb_X12_offers_0, vb_X12_offers_24, vb_X12_offers_25, xI_0, xI_1, xI_44, xI_45, xI_47, xI_49, xI_50, xI_65, xw_X12_offers_0, xw_X12_offers_24, xw_X12_offers_25, zw_lit, xB_c, xB_s, xB_n, i1_c, j2_c, k1_c, jJ_e, xlg, xls, xla, xpd, ppush, zw_m1, zw_m2, zw_m3, gf_12_41, gf_12_42, pf_12_41, pf_12_42, tg_12_41, tg_12_42, gv_590_41, gv_590_42, xD1, xD2, xD3, xD4, xD5, xD6, xb1_0, q1, q2] at h
    exact ⟨_, H, h, rfl, SCm_refl, Or.inl ⟨rfl, rfl⟩, fun a b => by omega⟩
  · have q2 : c ≤ H 590 41 := by omega
    by_cases q3 : c = H 590 41
    · have q3' : (c = H 590 41) = True := eq_true q3
      by_cases q4 : l < H 590 42
      · have q5 : ¬ H 590 42 ≤ l := by omega
        have h := call_runP 3 vm_X12_offers h
        have h := xw_top (hd := []) 5 xD6_ok xc_X12_offers xa_X12_offers (t := 0) rfl h
        simp (maxDischargeDepth := 12) -implicitDefEqProofs [vb_X12_offers_0, vb_X12_offers_24, vb_X12_offers_25, xI_0, xI_1, xI_44, xI_45, xI_47, xI_49, xI_50, xI_65, xw_X12_offers_0, xw_X12_offers_24, xw_X12_offers_25, zw_lit, xB_c, xB_s, xB_n, i1_c, j2_c, k1_c, jJ_e, xlg, xls, xla, xpd, ppush, zw_m1, zw_m2, zw_m3, gf_12_41, gf_12_42, pf_12_41, pf_12_42, tg_12_41, tg_12_42, gv_590_41, gv_590_42, xD1, xD2, xD3, xD4, xD5, xD6, xb1_0, q1, q2, q3', q4, q5] at h
        exact ⟨_, _, h, rfl, fr c l, Or.inr ⟨e1 c l, e2 c l⟩, fun a b => by rw [e1, e2]; omega⟩
      · have q5 : H 590 42 ≤ l := by omega
        have h := call_runP 3 vm_X12_offers h
        have h := xw_top (hd := []) 5 xD6_ok xc_X12_offers xa_X12_offers (t := 0) rfl h
        simp (maxDischargeDepth := 12) -implicitDefEqProofs [vb_X12_offers_0, vb_X12_offers_24, vb_X12_offers_25, xI_0, xI_1, xI_44, xI_45, xI_47, xI_49, xI_50, xI_65, xw_X12_offers_0, xw_X12_offers_24, xw_X12_offers_25, zw_lit, xB_c, xB_s, xB_n, i1_c, j2_c, k1_c, jJ_e, xlg, xls, xla, xpd, ppush, zw_m1, zw_m2, zw_m3, gf_12_41, gf_12_42, pf_12_41, pf_12_42, tg_12_41, tg_12_42, gv_590_41, gv_590_42, xD1, xD2, xD3, xD4, xD5, xD6, xb1_0, q1, q2, q3', q4, q5] at h
        exact ⟨_, H, h, rfl, SCm_refl, Or.inl ⟨rfl, rfl⟩, fun a b => by omega⟩
    · have h := call_runP 3 vm_X12_offers h
      have h := xw_top (hd := []) 5 xD6_ok xc_X12_offers xa_X12_offers (t := 0) rfl h
      simp (maxDischargeDepth := 12) -implicitDefEqProofs [vb_X12_offers_0, vb_X12_offers_24, vb_X12_offers_25, xI_0, xI_1, xI_44, xI_45, xI_47, xI_49, xI_50, xI_65, xw_X12_offers_0, xw_X12_offers_24, xw_X12_offers_25, zw_lit, xB_c, xB_s, xB_n, i1_c, j2_c, k1_c, jJ_e, xlg, xls, xla, xpd, ppush, zw_m1, zw_m2, zw_m3, gf_12_41, gf_12_42, pf_12_41, pf_12_42, tg_12_41, tg_12_42, gv_590_41, gv_590_42, xD1, xD2, xD3, xD4, xD5, xD6, xb1_0, q1, q2, q3] at h
      exact ⟨_, _, h, rfl, fr c l, Or.inr ⟨e1 c l, e2 c l⟩, fun a b => by rw [e1, e2]; omega⟩
/-- rows of costs and of lines left out, together the packed row -/
def PR2 (H : PH) (R : Int → Int) (ns : Int) : Prop := ∀ x, 0 ≤ x → x ≤ ns → H 614 x * 64 + H 615 x = R x
set_option maxRecDepth 100000 in
theorem lp_mai (t : Int → Int) (ns : Int) (A : Int → Int) (hB : MB A) (hX : OKX A) (hT : LT A t ns) (h0 : 0 ≤ ns ∧ ns ≤ 60) {E : xE} {res : xR} : ∀ (n : Nat) (i a b c d : Int) (H : PH), 0 ≤ i → i ≤ ns → H 591 = A → H 590 40 = ns → (∀ x, 0 ≤ x → x < ns → H 613 x = t x) → (∀ x, 0 ≤ x → x ≤ i → H 614 x * 64 + H 615 x = agI A t x ∧ H 615 x = x) → RUN E res n kd_X12_layAgainst (zget kd_X12_layAgainst 16) 16 [590, i, a, b, c, d] [] H → ∃ H' : PH, SCm [614, 615] [] H H' ∧ (∀ x, 0 ≤ x → x ≤ ns → H' 614 x * 64 + H' 615 x = agI A t x ∧ H' 615 x = x) ∧ xJ E res n kd_X12_layAgainst 68 [590, 0, a, b, c, d] [] H' := by
  have a2 := hB.2.2.1
  intro n
  induction n using Nat.strongRecOn with
  | _ n ih =>
    intro i a b c d H i0 i1 hA h40 h3 hR h
    have z1 : zw (i + 1) = i + 1 := zw_lit (by omega) (by omega)
    by_cases q : i < ns
    · have q' : ¬ ns ≤ i := by omega
      have tq := hT i i0 q
      have bt := (hX.2 (t i) tq.1 tq.2).2.2
      have e3 := h3 i i0 q
      obtain ⟨e4, e5⟩ := hR i i0 (Int.le_refl _)
      have ai := agI_in hX hT i.toNat (by omega)
      have ai : 0 ≤ agI A t i ∧ agI A t i ≤ 64000 * (i.toNat : Int) := ai
      have y1 : zw (12 * t i) = 12 * t i := zw_lit (by omega) (by omega)
      have y2 : zw (404 + 12 * t i) = 404 + 12 * t i := zw_lit (by omega) (by omega)
      have y3 : zw (404 + 12 * t i + 2) = 404 + 12 * t i + 2 := zw_lit (by omega) (by omega)
      have y4 : zw (H 614 i + A (404 + 12 * t i + 2)) = H 614 i + A (404 + 12 * t i + 2) := zw_lit (by omega) (by omega)
      have h := xw_top (hd := [16, 68]) 9 xD6_ok xc_X12_layAgainst xa_X12_layAgainst (t := 16) rfl h
      simp (maxDischargeDepth := 12) -implicitDefEqProofs [vb_X12_layAgainst_0, vb_X12_layAgainst_16, vb_X12_layAgainst_66, vb_X12_layAgainst_68, vb_X12_layAgainst_125, vb_X12_layAgainst_274, vb_X12_layAgainst_280, xI_0, xI_1, xI_3, xI_6, xI_7, xI_14, xI_34, xI_36, xI_46, xI_49, xI_50, xI_51, xI_52, xI_61, xI_65, xw_X12_layAgainst_0, xw_X12_layAgainst_16, xw_X12_layAgainst_66, xw_X12_layAgainst_68, xw_X12_layAgainst_125, xw_X12_layAgainst_274, xw_X12_layAgainst_280, zw_lit, xB_c, xB_s, xB_n, i1_c, j2_c, k1_c, jJ_e, xlg, xls, xla, xpd, ppush, zw_m1, zw_m2, zw_m3, gf_12_35, gf_12_36, gf_12_37, gf_12_38, gf_12_39, gf_12_40, gf_12_41, gf_12_42, pf_12_41, pf_12_42, tg_12_35, tg_12_36, tg_12_37, tg_12_38, tg_12_39, tg_12_40, tg_12_41, tg_12_42, gv_590_35, gv_590_36, gv_590_37, gv_590_38, gv_590_39, gv_590_40, gv_590_41, gv_590_42, xD1, xD2, xD3, xD4, xD5, xD6, xb1_0, h40, q, q', e3, hA, y1, y2, y3, y4, z1] at h
      obtain ⟨m, hm, h⟩ := h
      obtain ⟨H', g1, g2, g3⟩ := ih m hm (i + 1) a b c d _ (by omega) (by omega) (by rw [xp_ne (by decide), xp_ne (by decide)]; exact hA) (by rw [xp_ne (by decide), xp_ne (by decide)]; exact h40) (fun x x0 x1 => by rw [xp_ne (by decide), xp_ne (by decide)]; exact h3 x x0 x1) (fun x x0 x1 => by
        by_cases e : x = i + 1
        · rw [e, agI_S i0, xp_at, if_pos rfl, xp_ne (by decide), xp_at, if_pos rfl]
          unfold bqA
          omega
        · have := hR x x0 (by omega)
          rw [xp_at, if_neg e, xp_ne (show ¬ (614 : Int) = 615 by decide), xp_at, if_neg e, xp_ne (by decide)]
          exact this) h
      exact ⟨H', SCm_trans (SCm_trans (SCm_cell (by decide) (by decide)) (SCm_cell (by decide) (by decide))) g1, g2, xJ_up g3 (by omega)⟩
    · have q' : ns ≤ i := by omega
      have h := xw_top (hd := [16, 68]) 9 xD6_ok xc_X12_layAgainst xa_X12_layAgainst (t := 16) rfl h
      simp (maxDischargeDepth := 12) -implicitDefEqProofs [vb_X12_layAgainst_0, vb_X12_layAgainst_16, vb_X12_layAgainst_66, vb_X12_layAgainst_68, vb_X12_layAgainst_125, vb_X12_layAgainst_274, vb_X12_layAgainst_280, xI_0, xI_1, xI_3, xI_6, xI_7, xI_14, xI_34, xI_36, xI_46, xI_49, xI_50, xI_51, xI_52, xI_61, xI_65, xw_X12_layAgainst_0, xw_X12_layAgainst_16, xw_X12_layAgainst_66, xw_X12_layAgainst_68, xw_X12_layAgainst_125, xw_X12_layAgainst_274, xw_X12_layAgainst_280, zw_lit, xB_c, xB_s, xB_n, i1_c, j2_c, k1_c, jJ_e, xlg, xls, xla, xpd, ppush, zw_m1, zw_m2, zw_m3, gf_12_35, gf_12_36, gf_12_37, gf_12_38, gf_12_39, gf_12_40, gf_12_41, gf_12_42, pf_12_41, pf_12_42, tg_12_35, tg_12_36, tg_12_37, tg_12_38, tg_12_39, tg_12_40, tg_12_41, tg_12_42, gv_590_35, gv_590_36, gv_590_37, gv_590_38, gv_590_39, gv_590_40, gv_590_41, gv_590_42, xD1, xD2, xD3, xD4, xD5, xD6, xb1_0, h40, q, q'] at h
      exact ⟨H, SCm_refl, fun x x0 x1 => hR x x0 (by omega), h⟩
set_option maxRecDepth 100000 in
theorem lp_maj (p ns i : Int) (t : Int → Int) (A : Int → Int) (hB : MB A) (hX : OKX A) (hp : 0 ≤ p ∧ p < A 2) (hT : LT A t ns) (hi : 0 ≤ i) (h0 : 0 ≤ ns) (hin : i + 1 + ns ≤ 60) {E : xE} {res : xR} : ∀ (n : Nat) (j sc sf : Int) (R : Int → Int) (H : PH), 0 ≤ j → j ≤ ns → (0 ≤ sc * 64 + sf ∧ sc * 64 + sf ≤ 64000 * (i + j)) → (0 ≤ sf ∧ sf ≤ i + j) → BD 64000 R i j ns → BD 1 (H 615) i j ns → H 591 = A → H 590 40 = ns → H 612 i = p → (∀ x, 0 ≤ x → x < ns → H 613 x = t x) → PR2 H R ns → RUN E res n kd_X12_layAgainst (zget kd_X12_layAgainst 125) 125 [590, i, A (404 + 12 * p + 2), sc, sf, j] [] H → ∃ (H' : PH) (a b c d : Int), SCm [599, 614, 615] [41, 42] H H' ∧ BD 1 (H' 615) i ns ns ∧ PR2 H' (asI A p t (ns - j).toNat j (sc * 64 + sf) R) ns ∧ xJ E res n kd_X12_layAgainst 68 [590, i + 1, a, b, c, d] [] H' := by
  have a2 := hB.2.2.1
  have bp := (hX.2 p hp.1 hp.2).2.2
  intro n
  induction n using Nat.strongRecOn with
  | _ n ih =>
    intro j sc sf R H j0 j1 hc hs hb hb1 hA h40 h2 h3 hR h
    have z1 : zw (j + 1) = j + 1 := zw_lit (by omega) (by omega)
    have z2 : zw (i + 1) = i + 1 := zw_lit (by omega) (by omega)
    by_cases q : j < ns
    · have q' : ¬ ns ≤ j := by omega
      have tq := hT j j0 q
      have bt := (hX.2 (t j) tq.1 tq.2).2.2
      have e3 := h3 j j0 q
      have r0 := hR j j0 j1
      have r1 := hR (j + 1) (by omega) (by omega)
      have d0 := hb j j0 j1
      have d1 := hb (j + 1) (by omega) (by omega)
      have f0 := hb1 j j0 j1
      have f1 := hb1 (j + 1) (by omega) (by omega)
      rw [if_pos (show j ≤ j by omega)] at d0 f0
      rw [if_neg (show ¬ j + 1 ≤ j by omega)] at d1 f1
      have al := asC_in hB hX hp tq
      have st : (ns - j).toNat = (ns - (j + 1)).toNat + 1 := by omega
      have y1 : zw (12 * t j) = 12 * t j := zw_lit (by omega) (by omega)
      have y2 : zw (404 + 12 * t j) = 404 + 12 * t j := zw_lit (by omega) (by omega)
      have y3 : zw (404 + 12 * t j + 2) = 404 + 12 * t j + 2 := zw_lit (by omega) (by omega)
      have v1 : zw (sc + asC A p (t j)) = sc + asC A p (t j) := zw_lit (by omega) (by omega)
      have v2 : zw (H 614 (j + 1) + A (404 + 12 * p + 2)) = H 614 (j + 1) + A (404 + 12 * p + 2) := zw_lit (by omega) (by omega)
      have v3 : zw (H 615 (j + 1) + 1) = H 615 (j + 1) + 1 := zw_lit (by omega) (by omega)
      have v4 : zw (H 614 j + A (404 + 12 * t j + 2)) = H 614 j + A (404 + 12 * t j + 2) := zw_lit (by omega) (by omega)
      have v5 : zw (H 615 j + 1) = H 615 j + 1 := zw_lit (by omega) (by omega)
      have h := xw_top (hd := [125, 68]) 9 xD6_ok xc_X12_layAgainst xa_X12_layAgainst (t := 125) rfl h
      simp (maxDischargeDepth := 12) -implicitDefEqProofs [vb_X12_layAgainst_0, vb_X12_layAgainst_16, vb_X12_layAgainst_66, vb_X12_layAgainst_68, vb_X12_layAgainst_125, vb_X12_layAgainst_274, vb_X12_layAgainst_280, xI_0, xI_1, xI_3, xI_6, xI_7, xI_14, xI_34, xI_36, xI_46, xI_49, xI_50, xI_51, xI_52, xI_61, xI_65, xw_X12_layAgainst_0, xw_X12_layAgainst_16, xw_X12_layAgainst_66, xw_X12_layAgainst_68, xw_X12_layAgainst_125, xw_X12_layAgainst_274, xw_X12_layAgainst_280, zw_lit, xB_c, xB_s, xB_n, i1_c, j2_c, k1_c, jJ_e, xlg, xls, xla, xpd, ppush, zw_m1, zw_m2, zw_m3, gf_12_35, gf_12_36, gf_12_37, gf_12_38, gf_12_39, gf_12_40, gf_12_41, gf_12_42, pf_12_41, pf_12_42, tg_12_35, tg_12_36, tg_12_37, tg_12_38, tg_12_39, tg_12_40, tg_12_41, tg_12_42, gv_590_35, gv_590_36, gv_590_37, gv_590_38, gv_590_39, gv_590_40, gv_590_41, gv_590_42, xD1, xD2, xD3, xD4, xD5, xD6, xb1_0, h40, q, q', e3, h2] at h
      obtain ⟨r, H1, ⟨rfl, hf⟩, h⟩ := xc_use h (sp_X12_standing p (t j) A H hA hB hX hp tq)
      have x614 : H1 614 = H 614 := hf 614 (by decide)
      have x615 : H1 615 = H 615 := hf 615 (by decide)
      simp (maxDischargeDepth := 12) -implicitDefEqProofs [vb_X12_layAgainst_0, vb_X12_layAgainst_16, vb_X12_layAgainst_66, vb_X12_layAgainst_68, vb_X12_layAgainst_125, vb_X12_layAgainst_274, vb_X12_layAgainst_280, xI_0, xI_1, xI_3, xI_6, xI_7, xI_14, xI_34, xI_36, xI_46, xI_49, xI_50, xI_51, xI_52, xI_61, xI_65, xw_X12_layAgainst_0, xw_X12_layAgainst_16, xw_X12_layAgainst_66, xw_X12_layAgainst_68, xw_X12_layAgainst_125, xw_X12_layAgainst_274, xw_X12_layAgainst_280, zw_lit, xB_c, xB_s, xB_n, i1_c, j2_c, k1_c, jJ_e, xlg, xls, xla, xpd, ppush, zw_m1, zw_m2, zw_m3, gf_12_35, gf_12_36, gf_12_37, gf_12_38, gf_12_39, gf_12_40, gf_12_41, gf_12_42, pf_12_41, pf_12_42, tg_12_35, tg_12_36, tg_12_37, tg_12_38, tg_12_39, tg_12_40, tg_12_41, tg_12_42, gv_590_35, gv_590_36, gv_590_37, gv_590_38, gv_590_39, gv_590_40, gv_590_41, gv_590_42, xD1, xD2, xD3, xD4, xD5, xD6, xb1_0, v1, z1, x614, x615, v2, v3, xp_ne] at h
      obtain ⟨r, H2, ⟨rfl, s2, o2, p2⟩, h⟩ := xc_use h (sp_X12_offers _ _ _)
      have c2 : ∀ c, ¬ c = 590 → ¬ c = 599 → H2 c = H c := fun c n1 n2 => by rw [s2.1 c (by simp) n1, xp_ne n1, xp_ne n1]; exact hf c n2
      have y614 : H2 614 = H 614 := c2 614 (by decide) (by decide)
      have y615 : H2 615 = H 615 := c2 615 (by decide) (by decide)
      have y613 : H2 613 j = t j := by rw [c2 613 (by decide) (by decide)]; exact e3
      have y591 : H2 591 = A := by rw [c2 591 (by decide) (by decide)]; exact hA
      have w1 : pup (pup H1 590 41 (sc + asC A p (t j))) 590 42 sf 590 41 = sc + asC A p (t j) := by rw [xp_at, if_neg (by decide), xp_at, if_pos rfl]
      have w2 : pup (pup H1 590 41 (sc + asC A p (t j))) 590 42 sf 590 42 = sf := by rw [xp_at, if_pos rfl]
      rw [w1, w2] at o2 p2
      simp (maxDischargeDepth := 12) -implicitDefEqProofs [vb_X12_layAgainst_0, vb_X12_layAgainst_16, vb_X12_layAgainst_66, vb_X12_layAgainst_68, vb_X12_layAgainst_125, vb_X12_layAgainst_274, vb_X12_layAgainst_280, xI_0, xI_1, xI_3, xI_6, xI_7, xI_14, xI_34, xI_36, xI_46, xI_49, xI_50, xI_51, xI_52, xI_61, xI_65, xw_X12_layAgainst_0, xw_X12_layAgainst_16, xw_X12_layAgainst_66, xw_X12_layAgainst_68, xw_X12_layAgainst_125, xw_X12_layAgainst_274, xw_X12_layAgainst_280, zw_lit, xB_c, xB_s, xB_n, i1_c, j2_c, k1_c, jJ_e, xlg, xls, xla, xpd, ppush, zw_m1, zw_m2, zw_m3, gf_12_35, gf_12_36, gf_12_37, gf_12_38, gf_12_39, gf_12_40, gf_12_41, gf_12_42, pf_12_41, pf_12_42, tg_12_35, tg_12_36, tg_12_37, tg_12_38, tg_12_39, tg_12_40, tg_12_41, tg_12_42, gv_590_35, gv_590_36, gv_590_37, gv_590_38, gv_590_39, gv_590_40, gv_590_41, gv_590_42, xD1, xD2, xD3, xD4, xD5, xD6, xb1_0, z1, y614, y615, y613, y591, y1, y2, y3, v4, v5] at h
      obtain ⟨r, H3, ⟨rfl, s3, o3, p3⟩, h⟩ := xc_use h (sp_X12_offers _ _ _)
      have c3 : ∀ c, ¬ c = 590 → ¬ c = 599 → H3 c = H c := fun c n1 n2 => by rw [s3.1 c (by simp) n1]; exact c2 c n1 n2
      have i3 : ∀ k, ¬ k = 41 → ¬ k = 42 → H3 590 k = H 590 k := fun k n1 n2 => by
        have m : ¬ k ∈ [41, 42] := by simp [n1, n2]
        rw [s3.2 k m, s2.2 k m, xp_at, if_neg n2, xp_at, if_neg n1, hf 590 (by decide)]
      have z614 : H3 614 = H 614 := c3 614 (by decide) (by decide)
      have z615 : H3 615 = H 615 := c3 615 (by decide) (by decide)
      simp (maxDischargeDepth := 12) -implicitDefEqProofs [vb_X12_layAgainst_0, vb_X12_layAgainst_16, vb_X12_layAgainst_66, vb_X12_layAgainst_68, vb_X12_layAgainst_125, vb_X12_layAgainst_274, vb_X12_layAgainst_280, xI_0, xI_1, xI_3, xI_6, xI_7, xI_14, xI_34, xI_36, xI_46, xI_49, xI_50, xI_51, xI_52, xI_61, xI_65, xw_X12_layAgainst_0, xw_X12_layAgainst_16, xw_X12_layAgainst_66, xw_X12_layAgainst_68, xw_X12_layAgainst_125, xw_X12_layAgainst_274, xw_X12_layAgainst_280, zw_lit, xB_c, xB_s, xB_n, i1_c, j2_c, k1_c, jJ_e, xlg, xls, xla, xpd, ppush, zw_m1, zw_m2, zw_m3, gf_12_35, gf_12_36, gf_12_37, gf_12_38, gf_12_39, gf_12_40, gf_12_41, gf_12_42, pf_12_41, pf_12_42, tg_12_35, tg_12_36, tg_12_37, tg_12_38, tg_12_39, tg_12_40, tg_12_41, tg_12_42, gv_590_35, gv_590_36, gv_590_37, gv_590_38, gv_590_39, gv_590_40, gv_590_41, gv_590_42, xD1, xD2, xD3, xD4, xD5, xD6, xb1_0, z1, z614, z615, xp_ne] at h
      obtain ⟨m, hm, h⟩ := h
      have p2 := p2 (by omega) (by omega)
      have p3 := p3 (by omega) (by omega)
      have vv : H3 590 41 * 64 + H3 590 42 = min (sc * 64 + sf + asC A p (t j) * 64) (min (R (j + 1) + (bqA A p * 64 + 1)) (R j + (bqA A (t j) * 64 + 1))) := by
        unfold bqA
        omega
      have vf : 0 ≤ H3 590 42 ∧ H3 590 42 ≤ i + (j + 1) + 1 := by omega
      rw [st]
      unfold asI
      have hcn : H 614 (j + 1) * 64 + H 615 (j + 1) = R (j + 1) := r1
      obtain ⟨H', a, b, c, d, g1, g2, g3, g4⟩ := ih m hm (j + 1) (H 614 (j + 1)) (H 615 (j + 1)) (xup R (j + 1) (min (sc * 64 + sf + asC A p (t j) * 64) (min (R (j + 1) + (bqA A p * 64 + 1)) (R j + (bqA A (t j) * 64 + 1))))) _ (by omega) (by omega) (by omega) (by omega) (BD_up hb (by omega) q (by unfold bqA; omega) (by unfold bqA; omega)) (by
        have e : pup (pup H3 614 (j + 1) (H3 590 41)) 615 (j + 1) (H3 590 42) 615 = xup (H 615) (j + 1) (H3 590 42) := funext fun x => by
          rw [xp_at, xp_ne (by decide), z615]
          rfl
        rw [e]
        exact BD1_up hb1 vf.1 vf.2) (by rw [xp_ne (by decide), xp_ne (by decide), c3 591 (by decide) (by decide)]; exact hA) (by rw [xp_ne (by decide), xp_ne (by decide), i3 40 (by decide) (by decide)]; exact h40) (by rw [xp_ne (by decide), xp_ne (by decide), c3 612 (by decide) (by decide)]; exact h2) (fun x x0 x1 => by rw [xp_ne (by decide), xp_ne (by decide), c3 613 (by decide) (by decide)]; exact h3 x x0 x1) (fun x x0 x1 => by
        unfold xup
        by_cases e : x = j + 1
        · rw [if_pos e, e, xp_at, if_pos rfl, xp_ne (by decide), xp_at, if_pos rfl]
          exact vv
        · rw [if_neg e, xp_at, if_neg e, xp_ne (show ¬ (614 : Int) = 615 by decide), xp_at, if_neg e, xp_ne (by decide), z614, z615]
          exact hR x x0 x1) h
      rw [hcn] at g3
      refine ⟨H', a, b, c, d, SCm_trans ?_ g1, g2, g3, xJ_up g4 (by omega)⟩
      refine SCm_trans (H1 := H3) ⟨fun c n1 n2 => c3 c n2 (fun e => n1 (by rw [e]; decide)), fun k n1 => i3 k (fun e => n1 (by rw [e]; decide)) (fun e => n1 (by rw [e]; decide))⟩ (SCm_trans (SCm_cell (by decide) (by decide)) (SCm_cell (by decide) (by decide)))
    · have q' : ns ≤ j := by omega
      have ej : j = ns := by omega
      rw [show (ns - j).toNat = 0 by omega]
      have h := xw_top (hd := [125, 68]) 9 xD6_ok xc_X12_layAgainst xa_X12_layAgainst (t := 125) rfl h
      simp (maxDischargeDepth := 12) -implicitDefEqProofs [vb_X12_layAgainst_0, vb_X12_layAgainst_16, vb_X12_layAgainst_66, vb_X12_layAgainst_68, vb_X12_layAgainst_125, vb_X12_layAgainst_274, vb_X12_layAgainst_280, xI_0, xI_1, xI_3, xI_6, xI_7, xI_14, xI_34, xI_36, xI_46, xI_49, xI_50, xI_51, xI_52, xI_61, xI_65, xw_X12_layAgainst_0, xw_X12_layAgainst_16, xw_X12_layAgainst_66, xw_X12_layAgainst_68, xw_X12_layAgainst_125, xw_X12_layAgainst_274, xw_X12_layAgainst_280, zw_lit, xB_c, xB_s, xB_n, i1_c, j2_c, k1_c, jJ_e, xlg, xls, xla, xpd, ppush, zw_m1, zw_m2, zw_m3, gf_12_35, gf_12_36, gf_12_37, gf_12_38, gf_12_39, gf_12_40, gf_12_41, gf_12_42, pf_12_41, pf_12_42, tg_12_35, tg_12_36, tg_12_37, tg_12_38, tg_12_39, tg_12_40, tg_12_41, tg_12_42, gv_590_35, gv_590_36, gv_590_37, gv_590_38, gv_590_39, gv_590_40, gv_590_41, gv_590_42, xD1, xD2, xD3, xD4, xD5, xD6, xb1_0, h40, q, q', z2] at h
      exact ⟨H, _, _, _, _, SCm_refl, by rw [ej] at hb1; exact hb1, hR, h⟩
set_option maxRecDepth 100000 in
theorem lp_mak (t s : Int → Int) (ns nh : Int) (A : Int → Int) (hB : MB A) (hX : OKX A) (hT : LT A t ns) (hS : LT A s nh) (h0 : 0 ≤ ns) (h1 : 0 ≤ nh) (hin : nh + ns ≤ 60) {E : xE} {res : xR} : ∀ (n : Nat) (i a b c d : Int) (H : PH), 0 ≤ i → i ≤ nh → BD 1 (H 615) i (-1) ns → H 591 = A → H 590 40 = ns → H 590 39 = nh → (∀ x, 0 ≤ x → x < nh → H 612 x = s x) → (∀ x, 0 ≤ x → x < ns → H 613 x = t x) → PR2 H (flS (asR A t ns) s i.toNat 0 (agI A t)) ns → RUN E res n kd_X12_layAgainst (zget kd_X12_layAgainst 68) 68 [590, i, a, b, c, d] [] H → ∃ H' : PH, SCm [599, 614, 615] [41, 42] H H' ∧ BD 1 (H' 615) nh (-1) ns ∧ PR2 H' (flS (asR A t ns) s nh.toNat 0 (agI A t)) ns ∧ REPR E res none H' := by
  have a2 := hB.2.2.1
  intro n
  induction n using Nat.strongRecOn with
  | _ n ih =>
    intro i a b c d H i0 i1 hb1 hA h40 h39 h2 h3 hR h
    by_cases q : i < nh
    · have q' : ¬ nh ≤ i := by omega
      have sq := hS i i0 q
      have bp := (hX.2 (s i) sq.1 sq.2).2.2
      have e2 := h2 i i0 q
      have r0 := hR 0 (by omega) h0
      have hb := fl_BD hB hX hT h0 i.toNat (s := s) (fun x x0 x1 => hS x x0 (by omega))
      rw [show ((i.toNat : Nat) : Int) = i by omega] at hb
      have d0 := hb 0 (by omega) h0
      have f0 := hb1 0 (by omega) h0
      rw [if_neg (show ¬ (0 : Int) ≤ -1 by decide)] at d0 f0
      have y1 : zw (12 * s i) = 12 * s i := zw_lit (by omega) (by omega)
      have y2 : zw (404 + 12 * s i) = 404 + 12 * s i := zw_lit (by omega) (by omega)
      have y3 : zw (404 + 12 * s i + 2) = 404 + 12 * s i + 2 := zw_lit (by omega) (by omega)
      have v1 : zw (H 614 0 + A (404 + 12 * s i + 2)) = H 614 0 + A (404 + 12 * s i + 2) := zw_lit (by omega) (by omega)
      have v2 : zw (H 615 0 + 1) = H 615 0 + 1 := zw_lit (by omega) (by omega)
      have h := xw_top (hd := [68, 125]) 9 xD6_ok xc_X12_layAgainst xa_X12_layAgainst (t := 68) rfl h
      simp (maxDischargeDepth := 12) -implicitDefEqProofs [vb_X12_layAgainst_0, vb_X12_layAgainst_16, vb_X12_layAgainst_66, vb_X12_layAgainst_68, vb_X12_layAgainst_125, vb_X12_layAgainst_274, vb_X12_layAgainst_280, xI_0, xI_1, xI_3, xI_6, xI_7, xI_14, xI_34, xI_36, xI_46, xI_49, xI_50, xI_51, xI_52, xI_61, xI_65, xw_X12_layAgainst_0, xw_X12_layAgainst_16, xw_X12_layAgainst_66, xw_X12_layAgainst_68, xw_X12_layAgainst_125, xw_X12_layAgainst_274, xw_X12_layAgainst_280, zw_lit, xB_c, xB_s, xB_n, i1_c, j2_c, k1_c, jJ_e, xlg, xls, xla, xpd, ppush, zw_m1, zw_m2, zw_m3, gf_12_35, gf_12_36, gf_12_37, gf_12_38, gf_12_39, gf_12_40, gf_12_41, gf_12_42, pf_12_41, pf_12_42, tg_12_35, tg_12_36, tg_12_37, tg_12_38, tg_12_39, tg_12_40, tg_12_41, tg_12_42, gv_590_35, gv_590_36, gv_590_37, gv_590_38, gv_590_39, gv_590_40, gv_590_41, gv_590_42, xD1, xD2, xD3, xD4, xD5, xD6, xb1_0, h39, q, q', e2, hA, y1, y2, y3, v1, v2, xp_ne] at h
      obtain ⟨m, hm, h⟩ := h
      have e0 : flS (asR A t ns) s i.toNat 0 (agI A t) (-1 + 1) = flS (asR A t ns) s i.toNat 0 (agI A t) 0 := rfl
      have es : flS (asR A t ns) s (i + 1).toNat 0 (agI A t) = asR A t ns (s i) (flS (asR A t ns) s i.toNat 0 (agI A t)) := by
        rw [show (i + 1).toNat = i.toNat + 1 by omega, flS_end, show (0 : Int) + ((i.toNat : Nat) : Int) = i by omega]
      obtain ⟨H1, a1, b1, c1, d1, g1, g2, g3, m2, hm2, h⟩ := lp_maj (s i) ns i t A hB hX sq hT i0 h0 (by omega) m 0 (H 614 0) (H 615 0) (xup (flS (asR A t ns) s i.toNat 0 (agI A t)) 0 (flS (asR A t ns) s i.toNat 0 (agI A t) 0 + (bqA A (s i) * 64 + 1))) _ (by omega) h0 (by omega) (by omega) (BD_up (j := -1) hb (by omega) (by omega) (by unfold bqA; omega) (by unfold bqA; omega)) (by
        have e : pup (pup H 614 0 (H 614 0 + A (404 + 12 * s i + 2))) 615 0 (H 615 0 + 1) 615 = xup (H 615) (-1 + 1) (H 615 0 + 1) := funext fun x => by
          rw [xp_at, xp_ne (by decide)]
          rfl
        rw [e]
        exact BD1_up (j := -1) hb1 (by omega) (by omega)) (by rw [xp_ne (by decide), xp_ne (by decide)]; exact hA) (by rw [xp_ne (by decide), xp_ne (by decide)]; exact h40) (by rw [xp_ne (by decide), xp_ne (by decide)]; exact e2) (fun x x0 x1 => by rw [xp_ne (by decide), xp_ne (by decide)]; exact h3 x x0 x1) (fun x x0 x1 => by
        unfold xup bqA
        by_cases e : x = 0
        · rw [if_pos e, e, xp_at, if_pos rfl, xp_ne (by decide), xp_at, if_pos rfl]
          omega
        · rw [if_neg e, xp_at, if_neg e, xp_ne (show ¬ (614 : Int) = 615 by decide), xp_at, if_neg e, xp_ne (by decide)]
          exact hR x x0 x1) h
      rw [Int.sub_zero, r0] at g3
      have fr : SCm [599, 614, 615] [41, 42] H H1 := SCm_trans (SCm_trans (SCm_cell (by decide) (by decide)) (SCm_cell (by decide) (by decide))) g1
      obtain ⟨H', k1, k2, k3, k4⟩ := ih m2 (by omega) (i + 1) a1 b1 c1 d1 H1 (by omega) (by omega) (BD_nx g2) ((fr.1 591 (by decide) (by decide)).trans hA) ((fr.2 40 (by decide)).trans h40) ((fr.2 39 (by decide)).trans h39) (fun x x0 x1 => by rw [fr.1 612 (by decide) (by decide)]; exact h2 x x0 x1) (fun x x0 x1 => by rw [fr.1 613 (by decide) (by decide)]; exact h3 x x0 x1) (by rw [es]; exact g3) h
      exact ⟨H', SCm_trans fr k1, k2, k3, k4⟩
    · have q' : nh ≤ i := by omega
      have ei : i = nh := by omega
      have h := xw_top (hd := [68, 125]) 9 xD6_ok xc_X12_layAgainst xa_X12_layAgainst (t := 68) rfl h
      simp (maxDischargeDepth := 12) -implicitDefEqProofs [vb_X12_layAgainst_0, vb_X12_layAgainst_16, vb_X12_layAgainst_66, vb_X12_layAgainst_68, vb_X12_layAgainst_125, vb_X12_layAgainst_274, vb_X12_layAgainst_280, xI_0, xI_1, xI_3, xI_6, xI_7, xI_14, xI_34, xI_36, xI_46, xI_49, xI_50, xI_51, xI_52, xI_61, xI_65, xw_X12_layAgainst_0, xw_X12_layAgainst_16, xw_X12_layAgainst_66, xw_X12_layAgainst_68, xw_X12_layAgainst_125, xw_X12_layAgainst_274, xw_X12_layAgainst_280, zw_lit, xB_c, xB_s, xB_n, i1_c, j2_c, k1_c, jJ_e, xlg, xls, xla, xpd, ppush, zw_m1, zw_m2, zw_m3, gf_12_35, gf_12_36, gf_12_37, gf_12_38, gf_12_39, gf_12_40, gf_12_41, gf_12_42, pf_12_41, pf_12_42, tg_12_35, tg_12_36, tg_12_37, tg_12_38, tg_12_39, tg_12_40, tg_12_41, tg_12_42, gv_590_35, gv_590_36, gv_590_37, gv_590_38, gv_590_39, gv_590_40, gv_590_41, gv_590_42, xD1, xD2, xD3, xD4, xD5, xD6, xb1_0, h39, q, q'] at h
      rw [ei] at hb1 hR
      exact ⟨H, SCm_refl, hb1, hR, h⟩
set_option maxRecDepth 100000 in
theorem sp_m_against (u w : Int) (H : PH) (ok : OKR (H 591)) : SPEC 241 [(2, 590), (0, u), (0, w)] H (fun r H' => r = some (0, agQ (H 591) u w) ∧ MQs H H') := by
  intro E n' res h
  have a0 := ok.1.1
  have a2 := ok.1.2.2.1
  have os := ok.2.2.1
  unfold OKS at os
  have z0 : zw (H 591 0 - 1) = H 591 0 - 1 := zw_lit (by omega) (by omega)
  have z2 : zw (H 591 2 - 1) = H 591 2 - 1 := zw_lit (by omega) (by omega)
  by_cases qu : 0 ≤ u ∧ u ≤ 4
  · have u0 := qu.1
    have u1 := qu.2
    have u2 : ¬ u < 0 := by omega
    have u3 : ¬ 4 < u := by omega
    by_cases qw : 0 ≤ w ∧ w ≤ 1
    · have w0 := qw.1
      have w1 := qw.2
      have w2 : ¬ w < 0 := by omega
      have w3 : ¬ 1 < w := by omega
      have hq : (0 ≤ u ∧ u ≤ 4) ∧ (0 ≤ w ∧ w ≤ 1) := by omega
      have zi := hlZ_in ok.1 u 0
      have zj := hlZ_in ok.1 u 1
      have l0 := hlZ_LT (H 591) u 0 a2.1
      have l1 := hlZ_LT (H 591) u 1 a2.1
      have tw : (hlZ (H 591) u 0).1 + (hlZ (H 591) u 1).1 ≤ ((H 591 2).toNat : Int) := hlS_two (H 591) u (H 591 2).toNat
      have h := call_runP 3 vm_X12_against h
      have h := xw_top (hd := []) 7 xD6_ok xc_X12_against xa_X12_against (t := 0) rfl h
      simp (maxDischargeDepth := 12) -implicitDefEqProofs [vb_X12_against_0, vb_X12_against_16, vb_X12_against_18, vb_X12_against_43, vb_X12_against_52, xI_0, xI_1, xI_7, xI_36, xI_37, xI_38, xI_49, xI_51, xI_60, xI_61, xI_62, xw_X12_against_0, xw_X12_against_16, xw_X12_against_18, xw_X12_against_43, xw_X12_against_52, zw_lit, xB_c, xB_s, xB_n, i1_c, j2_c, k1_c, jJ_e, xlg, xls, xla, xpd, ppush, zw_m1, zw_m2, zw_m3, gf_12_37, gf_12_38, gf_12_40, tg_12_37, tg_12_38, tg_12_40, gv_590_37, gv_590_38, gv_590_40, xD1, xD2, xD3, xD4, xD5, xD6, xb1_0, u0, u1, u2, u3, w0, w1, w2, w3] at h
      obtain ⟨r, H1, ⟨rfl, g1, g2, sc⟩, h⟩ := xc_use h (sp_X12_layHold u H ok.1 ok.2.2.2)
      have eA : H1 591 = H 591 := sc.1 591 (by decide) (by decide)
      have layA : SPEC 239 [(2, 590)] H1 (fun r H' => r = none ∧ SCm [599, 614, 615] [41, 42] H1 H' ∧ BD 1 (H' 615) (hlZ (H 591) u 0).1 (-1) (hlZ (H 591) u 1).1 ∧ PR2 H' (agR (H 591) u) (hlZ (H 591) u 1).1) := by
        intro E n' res h
        have h := call_runP 6 vm_X12_layAgainst h
        have h := xw_top (hd := [16, 68]) 9 xD6_ok xc_X12_layAgainst xa_X12_layAgainst (t := 0) rfl h
        simp (maxDischargeDepth := 12) -implicitDefEqProofs [vb_X12_layAgainst_0, vb_X12_layAgainst_16, vb_X12_layAgainst_66, vb_X12_layAgainst_68, vb_X12_layAgainst_125, vb_X12_layAgainst_274, vb_X12_layAgainst_280, xI_0, xI_1, xI_3, xI_6, xI_7, xI_14, xI_34, xI_36, xI_46, xI_49, xI_50, xI_51, xI_52, xI_61, xI_65, xw_X12_layAgainst_0, xw_X12_layAgainst_16, xw_X12_layAgainst_66, xw_X12_layAgainst_68, xw_X12_layAgainst_125, xw_X12_layAgainst_274, xw_X12_layAgainst_280, zw_lit, xB_c, xB_s, xB_n, i1_c, j2_c, k1_c, jJ_e, xlg, xls, xla, xpd, ppush, zw_m1, zw_m2, zw_m3, gf_12_35, gf_12_36, gf_12_37, gf_12_38, gf_12_39, gf_12_40, gf_12_41, gf_12_42, pf_12_41, pf_12_42, tg_12_35, tg_12_36, tg_12_37, tg_12_38, tg_12_39, tg_12_40, tg_12_41, tg_12_42, gv_590_35, gv_590_36, gv_590_37, gv_590_38, gv_590_39, gv_590_40, gv_590_41, gv_590_42, xD1, xD2, xD3, xD4, xD5, xD6, xb1_0] at h
        obtain ⟨m, hm, h⟩ := h
        obtain ⟨H2, k1, k2, m2, hm2, h⟩ := lp_mai (hlZ (H 591) u 1).2 (hlZ (H 591) u 1).1 (H 591) ok.1 ok.2.2.2 l1 zj m 0 _ _ _ _ _ (by omega) zj.1 (by rw [xp_ne (by decide), xp_ne (by decide)]; exact eA) (by rw [xp_ne (by decide), xp_ne (by decide)]; exact g2.1) (fun x x0 x1 => by rw [xp_ne (by decide), xp_ne (by decide)]; exact g2.2 x x0 x1) (fun x x0 x1 => by
          have e : x = 0 := by omega
          rw [e, xp_at, if_pos rfl, xp_ne (by decide), xp_at, if_pos rfl]
          exact ⟨rfl, rfl⟩) h
        have fr : SCm [599, 614, 615] [41, 42] H1 H2 := SCm_trans (SCm_trans (SCm_cell (by decide) (by decide)) (SCm_cell (by decide) (by decide))) (SCm_sub k1 (by decide) (by decide))
        obtain ⟨H3, j1, j2, j3, j4⟩ := lp_mak (hlZ (H 591) u 1).2 (hlZ (H 591) u 0).2 (hlZ (H 591) u 1).1 (hlZ (H 591) u 0).1 (H 591) ok.1 ok.2.2.2 l1 l0 zj.1 zi.1 (by omega) m2 0 _ _ _ _ H2 (by omega) zi.1 (fun x x0 x1 => by
          have := (k2 x x0 x1).2
          rw [if_neg (by omega), this]
          omega) ((fr.1 591 (by decide) (by decide)).trans eA) ((fr.2 40 (by decide)).trans g2.1) ((fr.2 39 (by decide)).trans g1.1) (fun x x0 x1 => by rw [fr.1 612 (by decide) (by decide)]; exact g1.2 x x0 x1) (fun x x0 x1 => by rw [fr.1 613 (by decide) (by decide)]; exact g2.2 x x0 x1) (fun x x0 x1 => (k2 x x0 x1).1) h
        exact ⟨none, H3, j4, rfl, SCm_trans fr j1, j2, j3⟩
      obtain ⟨r, H2, ⟨rfl, s2, b2, p2⟩, h⟩ := xc_use h layA
      have e40 : H2 590 40 = (hlZ (H 591) u 1).1 := (s2.2 40 (by decide)).trans g2.1
      have mq : MQs H H2 := MQs_trans (MQs_SC sc (by decide) (by decide)) (MQs_SC s2 (by decide) (by decide))
      have rv : H2 614 (hlZ (H 591) u 1).1 * 64 + H2 615 (hlZ (H 591) u 1).1 = agZ (H 591) u := p2 _ zj.1 (Int.le_refl _)
      have rb := b2 (hlZ (H 591) u 1).1 zj.1 (Int.le_refl _)
      rw [if_neg (by omega)] at rb
      by_cases c : w = 0
      · simp (maxDischargeDepth := 12) -implicitDefEqProofs [vb_X12_against_0, vb_X12_against_16, vb_X12_against_18, vb_X12_against_43, vb_X12_against_52, xI_0, xI_1, xI_7, xI_36, xI_37, xI_38, xI_49, xI_51, xI_60, xI_61, xI_62, xw_X12_against_0, xw_X12_against_16, xw_X12_against_18, xw_X12_against_43, xw_X12_against_52, zw_lit, xB_c, xB_s, xB_n, i1_c, j2_c, k1_c, jJ_e, xlg, xls, xla, xpd, ppush, zw_m1, zw_m2, zw_m3, gf_12_37, gf_12_38, gf_12_40, tg_12_37, tg_12_38, tg_12_40, gv_590_37, gv_590_38, gv_590_40, xD1, xD2, xD3, xD4, xD5, xD6, xb1_0, c, e40] at h
        exact ⟨_, H2, h, by unfold agQ; rw [if_pos hq, if_pos c]; congr 2; omega, mq⟩
      · simp (maxDischargeDepth := 12) -implicitDefEqProofs [vb_X12_against_0, vb_X12_against_16, vb_X12_against_18, vb_X12_against_43, vb_X12_against_52, xI_0, xI_1, xI_7, xI_36, xI_37, xI_38, xI_49, xI_51, xI_60, xI_61, xI_62, xw_X12_against_0, xw_X12_against_16, xw_X12_against_18, xw_X12_against_43, xw_X12_against_52, zw_lit, xB_c, xB_s, xB_n, i1_c, j2_c, k1_c, jJ_e, xlg, xls, xla, xpd, ppush, zw_m1, zw_m2, zw_m3, gf_12_37, gf_12_38, gf_12_40, tg_12_37, tg_12_38, tg_12_40, gv_590_37, gv_590_38, gv_590_40, xD1, xD2, xD3, xD4, xD5, xD6, xb1_0, c, e40] at h
        exact ⟨_, H2, h, by unfold agQ; rw [if_pos hq, if_neg c]; congr 2; omega, mq⟩
    · by_cases w0 : 0 ≤ w
      · have w1 : ¬ w ≤ 1 := by omega
        have w2 : ¬ w < 0 := by omega
        have w3 : 1 < w := by omega
        have h := call_runP 3 vm_X12_against h
        have h := xw_top (hd := []) 7 xD6_ok xc_X12_against xa_X12_against (t := 0) rfl h
        simp (maxDischargeDepth := 12) -implicitDefEqProofs [vb_X12_against_0, vb_X12_against_16, vb_X12_against_18, vb_X12_against_43, vb_X12_against_52, xI_0, xI_1, xI_7, xI_36, xI_37, xI_38, xI_49, xI_51, xI_60, xI_61, xI_62, xw_X12_against_0, xw_X12_against_16, xw_X12_against_18, xw_X12_against_43, xw_X12_against_52, zw_lit, xB_c, xB_s, xB_n, i1_c, j2_c, k1_c, jJ_e, xlg, xls, xla, xpd, ppush, zw_m1, zw_m2, zw_m3, gf_12_37, gf_12_38, gf_12_40, tg_12_37, tg_12_38, tg_12_40, gv_590_37, gv_590_38, gv_590_40, xD1, xD2, xD3, xD4, xD5, xD6, xb1_0, u0, u1, u2, u3, w0, w1, w2, w3] at h
        exact ⟨_, _, h, by unfold agQ; rw [if_neg (by omega)], MQs_refl⟩
      · have w2 : w < 0 := by omega
        have h := call_runP 3 vm_X12_against h
        have h := xw_top (hd := []) 7 xD6_ok xc_X12_against xa_X12_against (t := 0) rfl h
        simp (maxDischargeDepth := 12) -implicitDefEqProofs [vb_X12_against_0, vb_X12_against_16, vb_X12_against_18, vb_X12_against_43, vb_X12_against_52, xI_0, xI_1, xI_7, xI_36, xI_37, xI_38, xI_49, xI_51, xI_60, xI_61, xI_62, xw_X12_against_0, xw_X12_against_16, xw_X12_against_18, xw_X12_against_43, xw_X12_against_52, zw_lit, xB_c, xB_s, xB_n, i1_c, j2_c, k1_c, jJ_e, xlg, xls, xla, xpd, ppush, zw_m1, zw_m2, zw_m3, gf_12_37, gf_12_38, gf_12_40, tg_12_37, tg_12_38, tg_12_40, gv_590_37, gv_590_38, gv_590_40, xD1, xD2, xD3, xD4, xD5, xD6, xb1_0, u0, u1, u2, u3, w0, w2] at h
        exact ⟨_, _, h, by unfold agQ; rw [if_neg (by omega)], MQs_refl⟩
  · by_cases u0 : 0 ≤ u
    · have u1 : ¬ u ≤ 4 := by omega
      have u2 : ¬ u < 0 := by omega
      have u3 : 4 < u := by omega
      have h := call_runP 3 vm_X12_against h
      have h := xw_top (hd := []) 7 xD6_ok xc_X12_against xa_X12_against (t := 0) rfl h
      simp (maxDischargeDepth := 12) -implicitDefEqProofs [vb_X12_against_0, vb_X12_against_16, vb_X12_against_18, vb_X12_against_43, vb_X12_against_52, xI_0, xI_1, xI_7, xI_36, xI_37, xI_38, xI_49, xI_51, xI_60, xI_61, xI_62, xw_X12_against_0, xw_X12_against_16, xw_X12_against_18, xw_X12_against_43, xw_X12_against_52, zw_lit, xB_c, xB_s, xB_n, i1_c, j2_c, k1_c, jJ_e, xlg, xls, xla, xpd, ppush, zw_m1, zw_m2, zw_m3, gf_12_37, gf_12_38, gf_12_40, tg_12_37, tg_12_38, tg_12_40, gv_590_37, gv_590_38, gv_590_40, xD1, xD2, xD3, xD4, xD5, xD6, xb1_0, u0, u1, u2, u3] at h
      exact ⟨_, _, h, by unfold agQ; rw [if_neg (by omega)], MQs_refl⟩
    · have u2 : u < 0 := by omega
      have h := call_runP 3 vm_X12_against h
      have h := xw_top (hd := []) 7 xD6_ok xc_X12_against xa_X12_against (t := 0) rfl h
      simp (maxDischargeDepth := 12) -implicitDefEqProofs [vb_X12_against_0, vb_X12_against_16, vb_X12_against_18, vb_X12_against_43, vb_X12_against_52, xI_0, xI_1, xI_7, xI_36, xI_37, xI_38, xI_49, xI_51, xI_60, xI_61, xI_62, xw_X12_against_0, xw_X12_against_16, xw_X12_against_18, xw_X12_against_43, xw_X12_against_52, zw_lit, xB_c, xB_s, xB_n, i1_c, j2_c, k1_c, jJ_e, xlg, xls, xla, xpd, ppush, zw_m1, zw_m2, zw_m3, gf_12_37, gf_12_38, gf_12_40, tg_12_37, tg_12_38, tg_12_40, gv_590_37, gv_590_38, gv_590_40, xD1, xD2, xD3, xD4, xD5, xD6, xb1_0, u0, u2] at h
      exact ⟨_, _, h, by unfold agQ; rw [if_neg (by omega)], MQs_refl⟩
theorem pr_against (u w : Int) (H : PH) (h : REL H) : PAIR 128 [(2, 0), (0, u), (0, w)] 241 [(2, 590), (0, u), (0, w)] H := by
  obtain ⟨⟨S, n, rl⟩, tp⟩ := h
  intro E N res hh
  obtain ⟨r, H1, g, rfl, cq⟩ := sp_c_against u w S n H rl.2.1 rl.2.2.1 E N res hh
  refine ⟨_, H1, g, ⟨_, rfl⟩, ?_⟩
  obtain ⟨x1, x2, x3, x4, x5⟩ := RL_mid rl cq.2.2.1
  intro E N res hh
  obtain ⟨r', H2, g', rfl, mq⟩ := sp_m_against u w H1 x4 E N res hh
  exact ⟨_, H2, g', by rw [x1], REL_MQ (REL_CQ rl tp cq) mq⟩
