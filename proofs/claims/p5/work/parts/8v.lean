theorem KWz_all : (List.range 622).all (fun c => !Nat.beq (zSh c).1 4 || (Nat.beq c 48 || Nat.beq c 51 || Nat.blt 468 c)) = true := by decide +kernel
theorem KWz {w : Int} (h : KW w) : w = 48 ∨ w = 51 ∨ 468 < w := by
  have h0 := h.1
  have h1 := h.2.1
  have := List.all_eq_true.mp KWz_all w.toNat (List.mem_range.mpr (by omega))
  rw [h.2.2] at this
  simp only [Nat.beq_refl, Bool.not_true, Bool.false_or, Bool.or_eq_true, Nat.blt_eq] at this
  rcases this with (q | q) | q
  · have := Nat.eq_of_beq_eq_true q
    omega
  · have := Nat.eq_of_beq_eq_true q
    omega
  · omega
theorem KW_16 {w : Int} (h : KW w) : (zSh (w + 1).toNat).1 = 16 ∧ (zSh (w + 2).toNat).1 = 16 := by
  have q16 : (List.range 622).all (fun c => !Nat.beq (zSh c).1 4 || (Nat.beq (zSh (c + 2)).1 16 && Nat.beq (zSh (c + 1)).1 16)) = true := by decide +kernel
  have h0 := h.1
  have h1 := h.2.1
  have g := List.all_eq_true.mp q16 w.toNat (List.mem_range.mpr (by omega))
  rw [h.2.2] at g
  simp only [Nat.beq_refl, Bool.not_true, Bool.false_or, Bool.and_eq_true] at g
  rw [show (w + 2).toNat = w.toNat + 2 by omega, show (w + 1).toNat = w.toNat + 1 by omega]
  exact ⟨Nat.eq_of_beq_eq_true g.2, Nat.eq_of_beq_eq_true g.1⟩
theorem TF_ag {H H' : PH} {w : Int} (hw : KW w) (g : ∀ d, ¬ d = w + 2 → H' d = H d) : TF H H' := ⟨fun c _ _ _ _ _ _ h _ => g c (fun e => h (by rw [show c - 2 = w by omega]; exact hw)), fun i _ => by rw [g 215 (by have := KWz hw; omega)], fun q hq i _ => by
  rw [g q (fun e => by
    have := hq.2.2
    rw [e, (KW_16 hw).2] at this
    omega)], by rw [g 1 (by have := KWz hw; omega)], g 47 (by have := KWz hw; omega), fun q hq _ => by
  have n1 := hq.2.2
  rw [g q (fun e => by rw [e, (KW_16 hw).2] at n1; omega), g (q + 1) (fun e => by rw [show q = w + 1 by omega, (KW_16 hw).1] at n1; omega)]
  exact ⟨rfl, rfl⟩⟩
set_option maxRecDepth 100000 in
theorem lp_tr2 (A : Int → Int) (hB : MB A) (hL : ML A) (t : tS) (ht : 0 ≤ t.1 ∧ t.1 ≤ 60) {E : xE} {res : xR} : ∀ (n : Nat) (s v : Int) (H : PH), 0 ≤ s → s ≤ 12 + t.1 → CI H A → TC t H → (∀ x, 0 ≤ x → x < A 2 → H 216 x = rdL A x) → (∀ x, 0 ≤ x → x < s → H 220 x = agA A (t.2.2.1 x) (t.2.2.2 x) (if x < A 0 then A (92 + 26 * x + 9) else 0)) → RUN E res n kd_X9_refresh (zget kd_X9_refresh 72) 72 [215, s, v] [] H → ∃ H' : PH, CI H' A ∧ TC t H' ∧ (∀ x, 0 ≤ x → x < A 2 → H' 216 x = rdL A x) ∧ (∀ x, 0 ≤ x → x < 12 + t.1 → H' 220 x = agA A (t.2.2.1 x) (t.2.2.2 x) (if x < A 0 then A (92 + 26 * x + 9) else 0)) ∧ TF H H' ∧ REPR E res none H' := by
  have hA0 := hB.1
  intro n
  induction n using Nat.strongRecOn with
  | _ n ih =>
    intro s v H hs0 hs1 ci hT hR hG h
    obtain ⟨t1, t2, t3, t4⟩ := id hT
    have a0 : A 0 = H 1 2 := ci.1.1.1
    have z0 : zw (12 + t.1) = 12 + t.1 := zw_lit (by omega) (by omega)
    have z1 : zw (s + 1) = s + 1 := zw_lit (by omega) (by omega)
    by_cases q : 12 + t.1 ≤ s
    · have h := xw_top (hd := [72]) 12 xD6_ok xc_X9_refresh xa_X9_refresh (t := 72) rfl h
      simp (maxDischargeDepth := 12) -implicitDefEqProofs [vb_X9_refresh_0, vb_X9_refresh_8, vb_X9_refresh_20, vb_X9_refresh_46, vb_X9_refresh_48, vb_X9_refresh_70, vb_X9_refresh_72, vb_X9_refresh_109, vb_X9_refresh_110, vb_X9_refresh_146, xI_0, xI_1, xI_3, xI_6, xI_7, xI_8, xI_14, xI_36, xI_37, xI_46, xI_49, xI_50, xI_51, xI_52, xI_53, xI_61, xI_65, xw_X9_refresh_0, xw_X9_refresh_8, xw_X9_refresh_20, xw_X9_refresh_46, xw_X9_refresh_48, xw_X9_refresh_70, xw_X9_refresh_72, xw_X9_refresh_109, xw_X9_refresh_110, xw_X9_refresh_146, zw_lit, xB_c, xB_s, xB_n, i1_c, j2_c, k1_c, jJ_e, xlg, xls, xla, xpd, ppush, zw_m1, zw_m2, zw_m3, gf_0_1, gf_1_1, gf_1_2, gf_1_4, gf_1_5, gf_9_0, gf_9_1, gf_9_4, gf_9_5, gf_9_6, gf_9_7, pf_9_4, pf_9_129, tg_0_1, tg_1_1, tg_1_2, tg_1_4, tg_1_5, tg_9_0, tg_9_1, tg_9_4, tg_9_5, tg_9_6, tg_9_7, gv_1_1, gv_1_2, gv_1_4, gv_1_5, gv_215_0, gv_215_1, gv_215_4, gv_215_5, gv_215_6, gv_215_7, xD1, xD2, xD3, xD4, xD5, xD6, xb1_0, t1, z0] at h
      have h := (h.resolve_right (by omega)).2
      exact ⟨H, ci, hT, hR, fun x x0 x1 => hG x x0 (by omega), TF_refl, h⟩
    · obtain ⟨kw, kv, kf, ke⟩ := agA_C hL ci.1 (t.2.2.1 s) (t.2.2.2 s) (if s < A 0 then A (92 + 26 * s + 9) else 0)
      have nz := KWz kw
      have e3 : H 218 s = t.2.2.1 s := t3 s hs0 (by omega)
      have e4 : H 219 s = t.2.2.2 s := t4 s hs0 (by omega)
      have nxt : ∀ (H2 : PH) (u : Int), (∀ d, ¬ d = H 1 5 + 2 → H2 d = H d) → xJ E res n kd_X9_refresh 72 [215, s + 1, u] [] (pup H2 220 s (agA A (t.2.2.1 s) (t.2.2.2 s) (if s < A 0 then A (92 + 26 * s + 9) else 0))) → ∃ H' : PH, CI H' A ∧ TC t H' ∧ (∀ x, 0 ≤ x → x < A 2 → H' 216 x = rdL A x) ∧ (∀ x, 0 ≤ x → x < 12 + t.1 → H' 220 x = agA A (t.2.2.1 x) (t.2.2.2 x) (if x < A 0 then A (92 + 26 * x + 9) else 0)) ∧ TF H H' ∧ REPR E res none H' := by
        rintro H2 u hH2 ⟨m, hm, g⟩
        have e : ∀ d, 213 ≤ d → d ≤ 467 → H2 d = H d := fun d d0 d1 => hH2 d (by omega)
        obtain ⟨H', k1, k2, k3, k4, k5, k7⟩ := ih m hm (s + 1) u (pup H2 220 s (agA A (t.2.2.1 s) (t.2.2.2 s) (if s < A 0 then A (92 + 26 * s + 9) else 0))) (by omega) (by omega) (CI_Z hB (CI_ag hB kw ci hH2) (fun c hc => xp_ne (by omega))) ⟨by rw [xp_ne (by decide), e 215 (by decide) (by decide)]; exact t1, fun x x0 x1 => by rw [xp_ne (by decide), e 217 (by decide) (by decide)]; exact t2 x x0 x1, fun x x0 x1 => by rw [xp_ne (by decide), e 218 (by decide) (by decide)]; exact t3 x x0 x1, fun x x0 x1 => by rw [xp_ne (by decide), e 219 (by decide) (by decide)]; exact t4 x x0 x1⟩ (fun x x0 x1 => by rw [xp_ne (by decide), e 216 (by decide) (by decide)]; exact hR x x0 x1) (fun x x0 x1 => by
          rw [xp_at, e 220 (by decide) (by decide)]
          split
          · rename_i e
            rw [e]
          · exact hG x x0 (by omega)) g
        exact ⟨H', k1, k2, k3, k4, TF_trans (TF_ag kw hH2) (TF_trans (TF_up (by decide)) k5), k7⟩
      by_cases c : s < A 0
      · have g46 : gv H 46 s = 57 + 3 * s := gv46 hs0 (by omega)
        obtain ⟨m6, m7, m0, m1, m2, m3, m4, m5, m8⟩ := KB_f (KB_of (b := s) hs0 (by omega))
        have eb : H (57 + 3 * s) 1 = A (92 + 26 * s + 9) := (ci.1.2.1 s hs0 c).2.1.symm
        have h := xw_top (hd := [72]) 12 xD6_ok xc_X9_refresh xa_X9_refresh (t := 72) rfl h
        simp (maxDischargeDepth := 12) -implicitDefEqProofs [vb_X9_refresh_0, vb_X9_refresh_8, vb_X9_refresh_20, vb_X9_refresh_46, vb_X9_refresh_48, vb_X9_refresh_70, vb_X9_refresh_72, vb_X9_refresh_109, vb_X9_refresh_110, vb_X9_refresh_146, xI_0, xI_1, xI_3, xI_6, xI_7, xI_8, xI_14, xI_36, xI_37, xI_46, xI_49, xI_50, xI_51, xI_52, xI_53, xI_61, xI_65, xw_X9_refresh_0, xw_X9_refresh_8, xw_X9_refresh_20, xw_X9_refresh_46, xw_X9_refresh_48, xw_X9_refresh_70, xw_X9_refresh_72, xw_X9_refresh_109, xw_X9_refresh_110, xw_X9_refresh_146, zw_lit, xB_c, xB_s, xB_n, i1_c, j2_c, k1_c, jJ_e, xlg, xls, xla, xpd, ppush, zw_m1, zw_m2, zw_m3, gf_0_1, gf_1_1, gf_1_2, gf_1_4, gf_1_5, gf_9_0, gf_9_1, gf_9_4, gf_9_5, gf_9_6, gf_9_7, pf_9_4, pf_9_129, tg_0_1, tg_1_1, tg_1_2, tg_1_4, tg_1_5, tg_9_0, tg_9_1, tg_9_4, tg_9_5, tg_9_6, tg_9_7, gv_1_1, gv_1_2, gv_1_4, gv_1_5, gv_215_0, gv_215_1, gv_215_4, gv_215_5, gv_215_6, gv_215_7, xD1, xD2, xD3, xD4, xD5, xD6, xb1_0, t1, z0, z1, ← a0, g46, m1, eb, e3, e4] at h
        have h := (h.resolve_left (by omega)).2
        have h := (h.resolve_left (by omega)).2
        rw [if_pos c] at ke nxt
        obtain ⟨r, H2, ⟨rfl, hH2⟩, h⟩ := xc_use h (sp_X4_agree _ _ _ _ H kw kv kf)
        rw [ke] at h
        simp (maxDischargeDepth := 12) -implicitDefEqProofs [vb_X9_refresh_0, vb_X9_refresh_8, vb_X9_refresh_20, vb_X9_refresh_46, vb_X9_refresh_48, vb_X9_refresh_70, vb_X9_refresh_72, vb_X9_refresh_109, vb_X9_refresh_110, vb_X9_refresh_146, xI_0, xI_1, xI_3, xI_6, xI_7, xI_8, xI_14, xI_36, xI_37, xI_46, xI_49, xI_50, xI_51, xI_52, xI_53, xI_61, xI_65, xw_X9_refresh_0, xw_X9_refresh_8, xw_X9_refresh_20, xw_X9_refresh_46, xw_X9_refresh_48, xw_X9_refresh_70, xw_X9_refresh_72, xw_X9_refresh_109, xw_X9_refresh_110, xw_X9_refresh_146, zw_lit, xB_c, xB_s, xB_n, i1_c, j2_c, k1_c, jJ_e, xlg, xls, xla, xpd, ppush, zw_m1, zw_m2, zw_m3, gf_0_1, gf_1_1, gf_1_2, gf_1_4, gf_1_5, gf_9_0, gf_9_1, gf_9_4, gf_9_5, gf_9_6, gf_9_7, pf_9_4, pf_9_129, tg_0_1, tg_1_1, tg_1_2, tg_1_4, tg_1_5, tg_9_0, tg_9_1, tg_9_4, tg_9_5, tg_9_6, tg_9_7, gv_1_1, gv_1_2, gv_1_4, gv_1_5, gv_215_0, gv_215_1, gv_215_4, gv_215_5, gv_215_6, gv_215_7, xD1, xD2, xD3, xD4, xD5, xD6, xb1_0, z1] at h
        exact nxt H2 _ hH2 h
      · have h := xw_top (hd := [72]) 12 xD6_ok xc_X9_refresh xa_X9_refresh (t := 72) rfl h
        simp (maxDischargeDepth := 12) -implicitDefEqProofs [vb_X9_refresh_0, vb_X9_refresh_8, vb_X9_refresh_20, vb_X9_refresh_46, vb_X9_refresh_48, vb_X9_refresh_70, vb_X9_refresh_72, vb_X9_refresh_109, vb_X9_refresh_110, vb_X9_refresh_146, xI_0, xI_1, xI_3, xI_6, xI_7, xI_8, xI_14, xI_36, xI_37, xI_46, xI_49, xI_50, xI_51, xI_52, xI_53, xI_61, xI_65, xw_X9_refresh_0, xw_X9_refresh_8, xw_X9_refresh_20, xw_X9_refresh_46, xw_X9_refresh_48, xw_X9_refresh_70, xw_X9_refresh_72, xw_X9_refresh_109, xw_X9_refresh_110, xw_X9_refresh_146, zw_lit, xB_c, xB_s, xB_n, i1_c, j2_c, k1_c, jJ_e, xlg, xls, xla, xpd, ppush, zw_m1, zw_m2, zw_m3, gf_0_1, gf_1_1, gf_1_2, gf_1_4, gf_1_5, gf_9_0, gf_9_1, gf_9_4, gf_9_5, gf_9_6, gf_9_7, pf_9_4, pf_9_129, tg_0_1, tg_1_1, tg_1_2, tg_1_4, tg_1_5, tg_9_0, tg_9_1, tg_9_4, tg_9_5, tg_9_6, tg_9_7, gv_1_1, gv_1_2, gv_1_4, gv_1_5, gv_215_0, gv_215_1, gv_215_4, gv_215_5, gv_215_6, gv_215_7, xD1, xD2, xD3, xD4, xD5, xD6, xb1_0, t1, z0, z1, ← a0, e3, e4] at h
        have h := (h.resolve_left (by omega)).2
        have h := (h.resolve_right (by omega)).2
        rw [if_neg c] at ke nxt
        obtain ⟨r, H2, ⟨rfl, hH2⟩, h⟩ := xc_use h (sp_X4_agree _ _ _ _ H kw kv kf)
        rw [ke] at h
        simp (maxDischargeDepth := 12) -implicitDefEqProofs [vb_X9_refresh_0, vb_X9_refresh_8, vb_X9_refresh_20, vb_X9_refresh_46, vb_X9_refresh_48, vb_X9_refresh_70, vb_X9_refresh_72, vb_X9_refresh_109, vb_X9_refresh_110, vb_X9_refresh_146, xI_0, xI_1, xI_3, xI_6, xI_7, xI_8, xI_14, xI_36, xI_37, xI_46, xI_49, xI_50, xI_51, xI_52, xI_53, xI_61, xI_65, xw_X9_refresh_0, xw_X9_refresh_8, xw_X9_refresh_20, xw_X9_refresh_46, xw_X9_refresh_48, xw_X9_refresh_70, xw_X9_refresh_72, xw_X9_refresh_109, xw_X9_refresh_110, xw_X9_refresh_146, zw_lit, xB_c, xB_s, xB_n, i1_c, j2_c, k1_c, jJ_e, xlg, xls, xla, xpd, ppush, zw_m1, zw_m2, zw_m3, gf_0_1, gf_1_1, gf_1_2, gf_1_4, gf_1_5, gf_9_0, gf_9_1, gf_9_4, gf_9_5, gf_9_6, gf_9_7, pf_9_4, pf_9_129, tg_0_1, tg_1_1, tg_1_2, tg_1_4, tg_1_5, tg_9_0, tg_9_1, tg_9_4, tg_9_5, tg_9_6, tg_9_7, gv_1_1, gv_1_2, gv_1_4, gv_1_5, gv_215_0, gv_215_1, gv_215_4, gv_215_5, gv_215_6, gv_215_7, xD1, xD2, xD3, xD4, xD5, xD6, xb1_0, z1] at h
        exact nxt H2 _ hH2 h
set_option maxRecDepth 100000 in
theorem sp_X9_refresh (A : Int → Int) (H : PH) (hB : MB A) (hL : ML A) (h3 : 0 ≤ A 3 ∧ A 3 ≤ 20) (ci : CI H A) (hf : ¬ H 215 1 = 0 → TCf A H) : SPEC 87 [(2, 215)] H (fun r H' => r = none ∧ CI H' A ∧ TCf A H' ∧ (¬ H 215 1 = 0 → H' = H) ∧ (H 215 1 = 0 → TF (pup H 215 1 1) H')) := by
  intro E n res h
  by_cases q : H 215 1 = 0
  · have h := call_runP 3 vm_X9_refresh h
    have h := xw_top (hd := [20, 48, 72]) 12 xD6_ok xc_X9_refresh xa_X9_refresh (t := 0) rfl h
    simp (maxDischargeDepth := 12) -implicitDefEqProofs [vb_X9_refresh_0, vb_X9_refresh_8, vb_X9_refresh_20, vb_X9_refresh_46, vb_X9_refresh_48, vb_X9_refresh_70, vb_X9_refresh_72, vb_X9_refresh_109, vb_X9_refresh_110, vb_X9_refresh_146, xI_0, xI_1, xI_3, xI_6, xI_7, xI_8, xI_14, xI_36, xI_37, xI_46, xI_49, xI_50, xI_51, xI_52, xI_53, xI_61, xI_65, xw_X9_refresh_0, xw_X9_refresh_8, xw_X9_refresh_20, xw_X9_refresh_46, xw_X9_refresh_48, xw_X9_refresh_70, xw_X9_refresh_72, xw_X9_refresh_109, xw_X9_refresh_110, xw_X9_refresh_146, zw_lit, xB_c, xB_s, xB_n, i1_c, j2_c, k1_c, jJ_e, xlg, xls, xla, xpd, ppush, zw_m1, zw_m2, zw_m3, gf_0_1, gf_1_1, gf_1_2, gf_1_4, gf_1_5, gf_9_0, gf_9_1, gf_9_4, gf_9_5, gf_9_6, gf_9_7, pf_9_4, pf_9_129, tg_0_1, tg_1_1, tg_1_2, tg_1_4, tg_1_5, tg_9_0, tg_9_1, tg_9_4, tg_9_5, tg_9_6, tg_9_7, gv_1_1, gv_1_2, gv_1_4, gv_1_5, gv_215_0, gv_215_1, gv_215_4, gv_215_5, gv_215_6, gv_215_7, xD1, xD2, xD3, xD4, xD5, xD6, xb1_0, q] at h
    obtain ⟨m, hm, h⟩ := h
    obtain ⟨H1, g1, g2, m1, hm1, g3⟩ := lp_tr0 m 0 0 _ (by omega) (by omega) (fun x x0 x1 => by omega) h
    have tf1 : TF (pup H 215 1 1) H1 := ⟨fun c _ _ _ _ _ _ _ h8 => by rw [g2 c (by omega) (by omega), xp_ne (by omega)], fun i b => by rw [g2 215 (by decide) (by decide), xp_at, if_neg b], fun p hp i _ => by have := KZ (Or.inr hp); rw [g2 p (by omega) (by omega), xp_ne (by omega)], LX_Z (fun c hc => by rw [g2 c (by omega) (by omega), xp_ne (by omega)])⟩
    have ci1 : CI H1 A := CI_Z hB ci (fun c hc => by rw [g2 c (by omega) (by omega), xp_ne (by omega), xp_ne (by omega)])
    obtain ⟨H2, u, k1, k2, k3, k4, k5, m2, hm2, k6⟩ := lp_tr1 A hB h3 m1 0 0 (0, fun _ => 0, fun _ => 0, fun _ => 0) H1 (by omega) hB.2.2.1.1 ci1 ⟨Int.le_refl _, Int.le_refl _⟩ (fun h h0 (h1 : h < 0) => by omega) ⟨by rw [g2 215 (by decide) (by decide), xp_at, if_pos rfl], fun h h0 (h1 : h < 0) => by omega, fun x x0 x1 => (g1 x x0 x1).1, fun x x0 x1 => (g1 x x0 x1).2⟩ (fun x x0 x1 => by omega) g3
    rw [Int.sub_zero] at k2 k3
    obtain ⟨H3, j1, j2, j3, j4, j5, j7⟩ := lp_tr2 A hB hL _ k3 m2 0 u H2 (by omega) (by omega) k1 k2 k4 (fun x x0 x1 => by omega) k6
    exact ⟨none, H3, j7, rfl, j1, ⟨j2, k3, j3, j4⟩, fun e => (e q).elim, fun _ => TF_trans tf1 (TF_trans k5 j5)⟩
  · have h := call_runP 3 vm_X9_refresh h
    have h := xw_top (hd := [20, 48, 72]) 12 xD6_ok xc_X9_refresh xa_X9_refresh (t := 0) rfl h
    simp (maxDischargeDepth := 12) -implicitDefEqProofs [vb_X9_refresh_0, vb_X9_refresh_8, vb_X9_refresh_20, vb_X9_refresh_46, vb_X9_refresh_48, vb_X9_refresh_70, vb_X9_refresh_72, vb_X9_refresh_109, vb_X9_refresh_110, vb_X9_refresh_146, xI_0, xI_1, xI_3, xI_6, xI_7, xI_8, xI_14, xI_36, xI_37, xI_46, xI_49, xI_50, xI_51, xI_52, xI_53, xI_61, xI_65, xw_X9_refresh_0, xw_X9_refresh_8, xw_X9_refresh_20, xw_X9_refresh_46, xw_X9_refresh_48, xw_X9_refresh_70, xw_X9_refresh_72, xw_X9_refresh_109, xw_X9_refresh_110, xw_X9_refresh_146, zw_lit, xB_c, xB_s, xB_n, i1_c, j2_c, k1_c, jJ_e, xlg, xls, xla, xpd, ppush, zw_m1, zw_m2, zw_m3, gf_0_1, gf_1_1, gf_1_2, gf_1_4, gf_1_5, gf_9_0, gf_9_1, gf_9_4, gf_9_5, gf_9_6, gf_9_7, pf_9_4, pf_9_129, tg_0_1, tg_1_1, tg_1_2, tg_1_4, tg_1_5, tg_9_0, tg_9_1, tg_9_4, tg_9_5, tg_9_6, tg_9_7, gv_1_1, gv_1_2, gv_1_4, gv_1_5, gv_215_0, gv_215_1, gv_215_4, gv_215_5, gv_215_6, gv_215_7, xD1, xD2, xD3, xD4, xD5, xD6, xb1_0, q] at h
    exact ⟨_, H, h, rfl, ci, hf q, fun _ => rfl, fun e => (q e).elim⟩
