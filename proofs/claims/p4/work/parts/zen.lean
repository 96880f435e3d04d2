/-! ===== settled: the class's, to the end ===== -/
theorem dp_0 {A D : Int → Int} {d : Nat} (al : Nat → Nat) (N : Nat) (hc : ∀ b : Nat, b < N → ∀ u, 0 ≤ cuS A D d b u) : ∀ b s : Nat, b ≤ N → 0 ≤ dpA A D d al b s
  | 0, s, _ => by
    unfold dpA
    split
    · exact Int.le_refl _
    · decide
  | b + 1, s, hb => by
    unfold dpA
    rcases lw_ex (dpA A D d al b) (cuS A D d b) s (s &&& al b) (s &&& al b) 536870912 with h | ⟨q, _, _, h⟩
    · rw [h]
      decide
    · rw [h]
      have a := dp_0 al N hc b (s - q) (by omega)
      have b' := hc b (by omega) q
      omega
set_option maxRecDepth 100000 in
theorem lp_weiA (b : Int) (S : Int → Int → Int) (N : Int) (H0 Hs : PH) (hb : 0 ≤ b ∧ b < S 0 0) (h5 : dN (S 0) ≤ 5) {E : xE} {res : xR} : ∀ (n : Nat) (u x y : Int) (H : PH), 0 ≤ u → u ≤ ((pw2 (dN (S 0)) : Nat) : Int) → SQ H0 H S N → DLn (S 0) H → H 453 b = (al0 (S 0) b.toNat : Int) → (∀ c, 451 ≤ c → c ≤ 467 → ¬ c = 455 + b → H c = Hs c) → (∀ v : Nat, (v : Int) < u → v &&& al0 (S 0) b.toNat = v → H (455 + b) v = cuS (S 0) (dL (S 0)) (dN (S 0)) b v) → RUN E res n kd_X7_weigh (zget kd_X7_weigh 18) 18 [451, b, 57 + 3 * b, dueA (S 0) b, u, x, y] [] H → ∃ H', SQ H0 H' S N ∧ DLn (S 0) H' ∧ (∀ c, 451 ≤ c → c ≤ 467 → ¬ c = 455 + b → H' c = Hs c) ∧ (∀ v : Nat, (v : Int) < ((pw2 (dN (S 0)) : Nat) : Int) → v &&& al0 (S 0) b.toNat = v → H' (455 + b) v = cuS (S 0) (dL (S 0)) (dN (S 0)) b v) ∧ REPR E res none H' := by
  have p2 : pw2 (dN (S 0)) ≤ 32 := p32 h5
  have a32 : al0 (S 0) b.toNat < 32 := Nat.lt_of_lt_of_le (mkN_lt _ _) p2
  intro n
  induction n using Nat.strongRecOn with
  | _ n ih =>
    intro u x y H u0 u1 hQ hL ha hF hC h
    have r := hQ.1.1
    have ok := RC_sz r
    have a0 := ok.1.1
    have e3 := hL.1
    have sh := shl_T (i := (dN (S 0) : Int)) (by omega)
    rw [Int.toNat_natCast] at sh
    have z1 : zw (u + 1) = u + 1 := zw_lit (by omega) (by omega)
    by_cases c : u < ((pw2 (dN (S 0)) : Nat) : Int)
    · have c' : ¬ ((pw2 (dN (S 0)) : Nat) : Int) ≤ u := by omega
      have ap := (and_T (x := u) (y := (al0 (S 0) b.toNat : Int)) ⟨u0, by omega⟩ (by omega)).1
      rw [Int.toNat_natCast] at ap
      by_cases w : u.toNat &&& al0 (S 0) b.toNat = u.toNat
      · have w' : (((u.toNat &&& al0 (S 0) b.toNat : Nat) : Int) = u) = True := eq_true (by rw [w]; omega)
        have t1 := hQ.2.1.2.2.1 b hb.1 (by omega)
        have t2 := hQ.2.1.2.2.2 b hb.1 (by omega)
        have tb := tlZ_bd ok.1 ok.2.2.2 b
        have bd := fun sd => bnS_bd ok.2.2.2 (sd := sd) (u := u.toNat) (dN (S 0)) (dN_in ok.1 h5).1
        have b0 := bd 0
        have b1 := bd 1
        have zs0 : zw ((tlZ (S 0)).2.2.1 b + bnS (S 0) (dL (S 0)) 0 u.toNat (dN (S 0))) = (tlZ (S 0)).2.2.1 b + bnS (S 0) (dL (S 0)) 0 u.toNat (dN (S 0)) := zw_lit (by omega) (by omega)
        have zs1 : zw ((tlZ (S 0)).2.2.2 b + bnS (S 0) (dL (S 0)) 1 u.toNat (dN (S 0))) = (tlZ (S 0)).2.2.2 b + bnS (S 0) (dL (S 0)) 1 u.toNat (dN (S 0)) := zw_lit (by omega) (by omega)
        have h := xw_top (hd := [18]) 6 xD6_ok xc_X7_weigh xa_X7_weigh (t := 18) rfl h
        simp (maxDischargeDepth := 12) -implicitDefEqProofs [vb_X7_weigh_0, vb_X7_weigh_18, vb_X7_weigh_113, vb_X7_weigh_119, xI_0, xI_1, xI_3, xI_4, xI_6, xI_7, xI_14, xI_15, xI_19, xI_22, xI_36, xI_44, xI_46, xI_49, xI_51, xI_52, xI_53, xI_61, xI_65, xI_66, xw_X7_weigh_0, xw_X7_weigh_18, xw_X7_weigh_113, xw_X7_weigh_119, zw_lit, xB_c, xB_s, xB_n, i1_c, j2_c, k1_c, jJ_e, xlg, xls, xla, xpd, ppush, zw_m1, zw_m2, zw_m3, gf_0_1, gf_1_1, gf_1_5, gf_7_0, gf_7_1, gf_7_3, gf_7_4, gf_7_5, gf_9_5, gf_9_6, tg_0_1, tg_1_1, tg_1_5, tg_7_0, tg_7_1, tg_7_3, tg_7_4, tg_7_5, tg_9_5, tg_9_6, gv_1_1, gv_1_5, gv_451_0, gv_451_1, gv_451_3, gv_451_4, gv_451_5, gv_215_5, gv_215_6, xD1, xD2, xD3, xD4, xD5, xD6, xb1_0, e3, sh, c, c', ha, ap, w', t1] at h
        obtain ⟨r1, H1, ⟨rfl, rfl⟩, g⟩ := xc_use h (sp_c_balesOf u 0 (S 0) _ ok.1 ok.2.2.2 r.1 h5 hL ⟨u0, by omega⟩)
        simp (maxDischargeDepth := 12) -implicitDefEqProofs [vb_X7_weigh_0, vb_X7_weigh_18, vb_X7_weigh_113, vb_X7_weigh_119, xI_0, xI_1, xI_3, xI_4, xI_6, xI_7, xI_14, xI_15, xI_19, xI_22, xI_36, xI_44, xI_46, xI_49, xI_51, xI_52, xI_53, xI_61, xI_65, xI_66, xw_X7_weigh_0, xw_X7_weigh_18, xw_X7_weigh_113, xw_X7_weigh_119, zw_lit, xB_c, xB_s, xB_n, i1_c, j2_c, k1_c, jJ_e, xlg, xls, xla, xpd, ppush, zw_m1, zw_m2, zw_m3, gf_0_1, gf_1_1, gf_1_5, gf_7_0, gf_7_1, gf_7_3, gf_7_4, gf_7_5, gf_9_5, gf_9_6, tg_0_1, tg_1_1, tg_1_5, tg_7_0, tg_7_1, tg_7_3, tg_7_4, tg_7_5, tg_9_5, tg_9_6, gv_1_1, gv_1_5, gv_451_0, gv_451_1, gv_451_3, gv_451_4, gv_451_5, gv_215_5, gv_215_6, xD1, xD2, xD3, xD4, xD5, xD6, xb1_0, zs0, t2] at g
        obtain ⟨r1, H2, ⟨rfl, rfl⟩, g2⟩ := xc_use g (sp_c_balesOf u 1 (S 0) _ ok.1 ok.2.2.2 r.1 h5 hL ⟨u0, by omega⟩)
        have g4 : gv H2 454 b = 455 + b := gv454 hb.1 (by omega)
        have g15 : ∀ X : PH, gv X 1 5 = X 1 5 := fun X => rfl
        have k1 := (KB_f (KB_of (b := b) hb.1 (by omega))).2.2.2.1
        have cnt := (r.1.1.2.1 b hb.1 hb.2).2.1
        simp (maxDischargeDepth := 12) -implicitDefEqProofs [vb_X7_weigh_0, vb_X7_weigh_18, vb_X7_weigh_113, vb_X7_weigh_119, xI_0, xI_1, xI_3, xI_4, xI_6, xI_7, xI_14, xI_15, xI_19, xI_22, xI_36, xI_44, xI_46, xI_49, xI_51, xI_52, xI_53, xI_61, xI_65, xI_66, xw_X7_weigh_0, xw_X7_weigh_18, xw_X7_weigh_113, xw_X7_weigh_119, zw_lit, xB_c, xB_s, xB_n, i1_c, j2_c, k1_c, jJ_e, xlg, xls, xla, xpd, ppush, zw_m1, zw_m2, zw_m3, gf_0_1, gf_1_1, gf_1_5, gf_7_0, gf_7_1, gf_7_3, gf_7_4, gf_7_5, gf_9_5, gf_9_6, tg_0_1, tg_1_1, tg_1_5, tg_7_0, tg_7_1, tg_7_3, tg_7_4, tg_7_5, tg_9_5, tg_9_6, gv_1_1, gv_1_5, gv_451_0, gv_451_1, gv_451_3, gv_451_4, gv_451_5, gv_215_5, gv_215_6, xD1, xD2, xD3, xD4, xD5, xD6, xb1_0, zs1, g4, g15, k1, ← cnt] at g2
        obtain ⟨kw, vc, wf, eag⟩ := agA_C ok.2.1 r.1.1 ((tlZ (S 0)).2.2.1 b + bnS (S 0) (dL (S 0)) 0 u.toNat (dN (S 0))) ((tlZ (S 0)).2.2.2 b + bnS (S 0) (dL (S 0)) 1 u.toNat (dN (S 0))) (S 0 (92 + 26 * b + 9))
        obtain ⟨r1, H3, ⟨rfl, fr⟩, g3⟩ := xc_use g2 (sp_X4_agree (H2 1 5) _ _ _ H2 kw vc wf)
        rw [eag] at g3
        have z := KWz kw
        have cq3 : CQ H0 H3 S N := CQ_trans hQ.1 (CQ_AF r (AF_TF (TF_ag kw fr)) (CI_ag ok.1 kw r.1 fr) (MCC_fr (fun c c0 c1 => fr c (by omega)) hQ.1.2.1))
        have fs3 : FS H2 H3 := fun c c0 c1 => fr c (by omega)
        have q3 : SQ H0 H3 S N := ⟨cq3, TCf_fz (fun c c0 c1 => fr c (by omega)) hQ.2⟩
        have du := dueA_in ok.1 ok.2.2.2 hb
        have ag := agA_in (S 0) (x := (tlZ (S 0)).2.2.1 b + bnS (S 0) (dL (S 0)) 0 u.toNat (dN (S 0))) (y := (tlZ (S 0)).2.2.2 b + bnS (S 0) (dL (S 0)) 1 u.toNat (dN (S 0))) (c := S 0 (92 + 26 * b + 9)) (by omega) (by omega)
        have fin : ∀ v, v = cuS (S 0) (dL (S 0)) (dN (S 0)) b u.toNat → ∀ x y, xJ E res n kd_X7_weigh 18 [451, b, 57 + 3 * b, dueA (S 0) b, u + 1, x, y] [] (pup H3 (455 + b) u v) → ∃ H', SQ H0 H' S N ∧ DLn (S 0) H' ∧ (∀ c, 451 ≤ c → c ≤ 467 → ¬ c = 455 + b → H' c = Hs c) ∧ (∀ v : Nat, (v : Int) < ((pw2 (dN (S 0)) : Nat) : Int) → v &&& al0 (S 0) b.toNat = v → H' (455 + b) v = cuS (S 0) (dL (S 0)) (dN (S 0)) b v) ∧ REPR E res none H' := by
          rintro v ev x y ⟨m, hm, g⟩
          refine ih m hm (u + 1) x y _ (by omega) (by omega) (SQ_up (by omega) q3) (DLn_up (by omega) (DLn_fs fs3 hL)) (by rw [xp_ne (by omega), fs3 453 (by decide) (by decide)]; exact ha) (fun c c0 c1 c2 => by rw [xp_ne c2, fs3 c c0 c1]; exact hF c c0 c1 c2) (fun t t1 t2 => ?_) g
          rw [xp_at]
          by_cases e : (t : Int) = u
          · rw [if_pos e, ev, show u.toNat = t by omega]
          · rw [if_neg e, fs3 _ (by omega) (by omega)]
            exact hC t (by omega) t2
        by_cases s : 0 ≤ dueA (S 0) b - agA (S 0) ((tlZ (S 0)).2.2.1 b + bnS (S 0) (dL (S 0)) 0 u.toNat (dN (S 0))) ((tlZ (S 0)).2.2.2 b + bnS (S 0) (dL (S 0)) 1 u.toNat (dN (S 0))) (S 0 (92 + 26 * b + 9))
        · obtain ⟨d, hd⟩ : ∃ d, d = dueA (S 0) b - agA (S 0) ((tlZ (S 0)).2.2.1 b + bnS (S 0) (dL (S 0)) 0 u.toNat (dN (S 0))) ((tlZ (S 0)).2.2.2 b + bnS (S 0) (dL (S 0)) 1 u.toNat (dN (S 0))) (S 0 (92 + 26 * b + 9)) := ⟨_, rfl⟩
          have zd : zw (dueA (S 0) b - agA (S 0) ((tlZ (S 0)).2.2.1 b + bnS (S 0) (dL (S 0)) 0 u.toNat (dN (S 0))) ((tlZ (S 0)).2.2.2 b + bnS (S 0) (dL (S 0)) 1 u.toNat (dN (S 0))) (S 0 (92 + 26 * b + 9))) = d := by rw [hd]; exact zw_lit (by omega) (by omega)
          have d0 : 0 ≤ d := by omega
          simp (maxDischargeDepth := 12) -implicitDefEqProofs [vb_X7_weigh_0, vb_X7_weigh_18, vb_X7_weigh_113, vb_X7_weigh_119, xI_0, xI_1, xI_3, xI_4, xI_6, xI_7, xI_14, xI_15, xI_19, xI_22, xI_36, xI_44, xI_46, xI_49, xI_51, xI_52, xI_53, xI_61, xI_65, xI_66, xw_X7_weigh_0, xw_X7_weigh_18, xw_X7_weigh_113, xw_X7_weigh_119, zw_lit, xB_c, xB_s, xB_n, i1_c, j2_c, k1_c, jJ_e, xlg, xls, xla, xpd, ppush, zw_m1, zw_m2, zw_m3, gf_0_1, gf_1_1, gf_1_5, gf_7_0, gf_7_1, gf_7_3, gf_7_4, gf_7_5, gf_9_5, gf_9_6, tg_0_1, tg_1_1, tg_1_5, tg_7_0, tg_7_1, tg_7_3, tg_7_4, tg_7_5, tg_9_5, tg_9_6, gv_1_1, gv_1_5, gv_451_0, gv_451_1, gv_451_3, gv_451_4, gv_451_5, gv_215_5, gv_215_6, xD1, xD2, xD3, xD4, xD5, xD6, xb1_0, zd, d0, z1] at g3
          exact fin d (by unfold cuS coS; rw [← hd, if_pos d0]) _ _ g3
        · obtain ⟨d, hd⟩ : ∃ d, d = dueA (S 0) b - agA (S 0) ((tlZ (S 0)).2.2.1 b + bnS (S 0) (dL (S 0)) 0 u.toNat (dN (S 0))) ((tlZ (S 0)).2.2.2 b + bnS (S 0) (dL (S 0)) 1 u.toNat (dN (S 0))) (S 0 (92 + 26 * b + 9)) := ⟨_, rfl⟩
          have zd : zw (dueA (S 0) b - agA (S 0) ((tlZ (S 0)).2.2.1 b + bnS (S 0) (dL (S 0)) 0 u.toNat (dN (S 0))) ((tlZ (S 0)).2.2.2 b + bnS (S 0) (dL (S 0)) 1 u.toNat (dN (S 0))) (S 0 (92 + 26 * b + 9))) = d := by rw [hd]; exact zw_lit (by omega) (by omega)
          have d0 : ¬ 0 ≤ d := by omega
          have zn : zw (0 - d) = -d := by rw [show 0 - d = -d by omega]; exact zw_lit (by omega) (by omega)
          have zn' : zw (-d) = -d := zw_lit (by omega) (by omega)
          simp (maxDischargeDepth := 12) -implicitDefEqProofs [vb_X7_weigh_0, vb_X7_weigh_18, vb_X7_weigh_113, vb_X7_weigh_119, xI_0, xI_1, xI_3, xI_4, xI_6, xI_7, xI_14, xI_15, xI_19, xI_22, xI_36, xI_44, xI_46, xI_49, xI_51, xI_52, xI_53, xI_61, xI_65, xI_66, xw_X7_weigh_0, xw_X7_weigh_18, xw_X7_weigh_113, xw_X7_weigh_119, zw_lit, xB_c, xB_s, xB_n, i1_c, j2_c, k1_c, jJ_e, xlg, xls, xla, xpd, ppush, zw_m1, zw_m2, zw_m3, gf_0_1, gf_1_1, gf_1_5, gf_7_0, gf_7_1, gf_7_3, gf_7_4, gf_7_5, gf_9_5, gf_9_6, tg_0_1, tg_1_1, tg_1_5, tg_7_0, tg_7_1, tg_7_3, tg_7_4, tg_7_5, tg_9_5, tg_9_6, gv_1_1, gv_1_5, gv_451_0, gv_451_1, gv_451_3, gv_451_4, gv_451_5, gv_215_5, gv_215_6, xD1, xD2, xD3, xD4, xD5, xD6, xb1_0, zd, d0, zn, zn', z1] at g3
          exact fin (-d) (by unfold cuS coS; rw [← hd, if_neg d0]) _ _ g3
      · have w' : ¬ ((u.toNat &&& al0 (S 0) b.toNat : Nat) : Int) = u := fun e => w (by omega)
        have h := xw_top (hd := [18]) 6 xD6_ok xc_X7_weigh xa_X7_weigh (t := 18) rfl h
        simp (maxDischargeDepth := 12) -implicitDefEqProofs [vb_X7_weigh_0, vb_X7_weigh_18, vb_X7_weigh_113, vb_X7_weigh_119, xI_0, xI_1, xI_3, xI_4, xI_6, xI_7, xI_14, xI_15, xI_19, xI_22, xI_36, xI_44, xI_46, xI_49, xI_51, xI_52, xI_53, xI_61, xI_65, xI_66, xw_X7_weigh_0, xw_X7_weigh_18, xw_X7_weigh_113, xw_X7_weigh_119, zw_lit, xB_c, xB_s, xB_n, i1_c, j2_c, k1_c, jJ_e, xlg, xls, xla, xpd, ppush, zw_m1, zw_m2, zw_m3, gf_0_1, gf_1_1, gf_1_5, gf_7_0, gf_7_1, gf_7_3, gf_7_4, gf_7_5, gf_9_5, gf_9_6, tg_0_1, tg_1_1, tg_1_5, tg_7_0, tg_7_1, tg_7_3, tg_7_4, tg_7_5, tg_9_5, tg_9_6, gv_1_1, gv_1_5, gv_451_0, gv_451_1, gv_451_3, gv_451_4, gv_451_5, gv_215_5, gv_215_6, xD1, xD2, xD3, xD4, xD5, xD6, xb1_0, e3, sh, c, c', ha, ap, w', z1] at h
        obtain ⟨m, hm, h⟩ := h
        exact ih m hm (u + 1) _ _ H (by omega) (by omega) hQ hL ha hF (fun v v1 v2 => by
          by_cases e : (v : Int) = u
          · exact absurd (by rw [show u.toNat = v by omega]; exact v2) w
          · exact hC v (by omega) v2) h
    · have c' : ((pw2 (dN (S 0)) : Nat) : Int) ≤ u := by omega
      have h := xw_top (hd := [18]) 6 xD6_ok xc_X7_weigh xa_X7_weigh (t := 18) rfl h
      simp (maxDischargeDepth := 12) -implicitDefEqProofs [vb_X7_weigh_0, vb_X7_weigh_18, vb_X7_weigh_113, vb_X7_weigh_119, xI_0, xI_1, xI_3, xI_4, xI_6, xI_7, xI_14, xI_15, xI_19, xI_22, xI_36, xI_44, xI_46, xI_49, xI_51, xI_52, xI_53, xI_61, xI_65, xI_66, xw_X7_weigh_0, xw_X7_weigh_18, xw_X7_weigh_113, xw_X7_weigh_119, zw_lit, xB_c, xB_s, xB_n, i1_c, j2_c, k1_c, jJ_e, xlg, xls, xla, xpd, ppush, zw_m1, zw_m2, zw_m3, gf_0_1, gf_1_1, gf_1_5, gf_7_0, gf_7_1, gf_7_3, gf_7_4, gf_7_5, gf_9_5, gf_9_6, tg_0_1, tg_1_1, tg_1_5, tg_7_0, tg_7_1, tg_7_3, tg_7_4, tg_7_5, tg_9_5, tg_9_6, gv_1_1, gv_1_5, gv_451_0, gv_451_1, gv_451_3, gv_451_4, gv_451_5, gv_215_5, gv_215_6, xD1, xD2, xD3, xD4, xD5, xD6, xb1_0, e3, sh, c, c'] at h
      exact ⟨H, hQ, hL, hF, fun v v1 v2 => hC v (by omega) v2, h⟩
set_option maxRecDepth 100000 in
theorem sp_c_weigh (b : Int) (S : Int → Int → Int) (n : Int) (H0 H : PH) (hb : 0 ≤ b ∧ b < S 0 0) (h5 : dN (S 0) ≤ 5) (hQ : SQ H0 H S n) (hL : DLn (S 0) H) (ha : H 453 b = (al0 (S 0) b.toNat : Int)) : SPEC 65 [(2, 451), (0, b)] H (fun r H' => r = none ∧ SQ H0 H' S n ∧ DLn (S 0) H' ∧ (∀ c, 451 ≤ c → c ≤ 467 → ¬ c = 455 + b → H' c = H c) ∧ ∀ v : Nat, (v : Int) < ((pw2 (dN (S 0)) : Nat) : Int) → v &&& al0 (S 0) b.toNat = v → H' (455 + b) v = cuS (S 0) (dL (S 0)) (dN (S 0)) b v) := by
  intro E n' res h
  have ok := RC_sz hQ.1.1
  have a0 := ok.1.1
  have g46 : gv H 46 b = 57 + 3 * b := gv46 hb.1 (by omega)
  have h := call_runP 7 vm_X7_weigh h
  have h := xw_top (hd := [18]) 6 xD6_ok xc_X7_weigh xa_X7_weigh (t := 0) rfl h
  simp (maxDischargeDepth := 12) -implicitDefEqProofs [vb_X7_weigh_0, vb_X7_weigh_18, vb_X7_weigh_113, vb_X7_weigh_119, xI_0, xI_1, xI_3, xI_4, xI_6, xI_7, xI_14, xI_15, xI_19, xI_22, xI_36, xI_44, xI_46, xI_49, xI_51, xI_52, xI_53, xI_61, xI_65, xI_66, xw_X7_weigh_0, xw_X7_weigh_18, xw_X7_weigh_113, xw_X7_weigh_119, zw_lit, xB_c, xB_s, xB_n, i1_c, j2_c, k1_c, jJ_e, xlg, xls, xla, xpd, ppush, zw_m1, zw_m2, zw_m3, gf_0_1, gf_1_1, gf_1_5, gf_7_0, gf_7_1, gf_7_3, gf_7_4, gf_7_5, gf_9_5, gf_9_6, tg_0_1, tg_1_1, tg_1_5, tg_7_0, tg_7_1, tg_7_3, tg_7_4, tg_7_5, tg_9_5, tg_9_6, gv_1_1, gv_1_5, gv_451_0, gv_451_1, gv_451_3, gv_451_4, gv_451_5, gv_215_5, gv_215_6, xD1, xD2, xD3, xD4, xD5, xD6, xb1_0, g46] at h
  obtain ⟨r, H1, ⟨rfl, rfl⟩, g⟩ := xc_use h (sp_X0_dueBales b (S 0) H ok.1 hQ.1.1.1.1 hb)
  simp (maxDischargeDepth := 12) -implicitDefEqProofs [vb_X7_weigh_0, vb_X7_weigh_18, vb_X7_weigh_113, vb_X7_weigh_119, xI_0, xI_1, xI_3, xI_4, xI_6, xI_7, xI_14, xI_15, xI_19, xI_22, xI_36, xI_44, xI_46, xI_49, xI_51, xI_52, xI_53, xI_61, xI_65, xI_66, xw_X7_weigh_0, xw_X7_weigh_18, xw_X7_weigh_113, xw_X7_weigh_119, zw_lit, xB_c, xB_s, xB_n, i1_c, j2_c, k1_c, jJ_e, xlg, xls, xla, xpd, ppush, zw_m1, zw_m2, zw_m3, gf_0_1, gf_1_1, gf_1_5, gf_7_0, gf_7_1, gf_7_3, gf_7_4, gf_7_5, gf_9_5, gf_9_6, tg_0_1, tg_1_1, tg_1_5, tg_7_0, tg_7_1, tg_7_3, tg_7_4, tg_7_5, tg_9_5, tg_9_6, gv_1_1, gv_1_5, gv_451_0, gv_451_1, gv_451_3, gv_451_4, gv_451_5, gv_215_5, gv_215_6, xD1, xD2, xD3, xD4, xD5, xD6, xb1_0] at g
  obtain ⟨m, hm, g⟩ := g
  obtain ⟨H', k1, k2, k3, k4, k5⟩ := lp_weiA b S n H0 _ hb h5 m 0 _ _ _ (by decide) (by omega) hQ hL ha (fun _ _ _ _ => rfl) (fun v v1 _ => by omega) g
  exact ⟨_, H', k5, rfl, k1, k2, k3, k4⟩
/-- what is allowed lies within what is near -/
def SBA (A : Int → Int) (al : Nat → Nat) : Prop := ∀ b : Nat, (b : Int) < A 0 → al b &&& al0 A b = al b
set_option maxRecDepth 100000 in
theorem lp_liaA53 (b : Int) (S : Int → Int → Int) (N : Int) (al : Nat → Nat) (H0 : PH) (hb : 0 ≤ b ∧ b < S 0 0) (h5 : dN (S 0) ≤ 5) (hA : SBA (S 0) al) {E : xE} {res : xR} : ∀ (n : Nat) (u : Int) (H : PH), -1 ≤ u → u < ((pw2 (dN (S 0)) : Nat) : Int) → SQ H0 H S N → SY (S 0) al H → (∀ t : Nat, t < pw2 (dN (S 0)) → H 467 t = if (t : Int) ≤ u then dpA (S 0) (dL (S 0)) (dN (S 0)) al b.toNat t else dpA (S 0) (dL (S 0)) (dN (S 0)) al (b.toNat + 1) t) → RUN E res n kd_X7_leastInAll (zget kd_X7_leastInAll 53) 53 [451, ((pw2 (dN (S 0)) : Nat) : Int) - 1, b, u] [] H → ∃ (H' : PH) (u' : Int), SQ H0 H' S N ∧ SY (S 0) al H' ∧ (∀ t : Nat, t < pw2 (dN (S 0)) → H' 467 t = dpA (S 0) (dL (S 0)) (dN (S 0)) al (b.toNat + 1) t) ∧ xJ E res n kd_X7_leastInAll 75 [451, ((pw2 (dN (S 0)) : Nat) : Int) - 1, b, u'] [] H' := by
  have p2 : pw2 (dN (S 0)) ≤ 32 := p32 h5
  intro n
  induction n using Nat.strongRecOn with
  | _ n ih =>
    intro u H u0 u1 hQ hY hR h
    have ok := RC_sz hQ.1.1
    have a0 := ok.1.1
    by_cases c : u < 0
    · have c' : ¬ 0 ≤ u := by omega
      have h := xw_top (hd := [11, 40, 53, 75]) 11 xD6_ok xc_X7_leastInAll xa_X7_leastInAll (t := 53) rfl h
      simp (maxDischargeDepth := 12) -implicitDefEqProofs [vb_X7_leastInAll_0, vb_X7_leastInAll_11, vb_X7_leastInAll_29, vb_X7_leastInAll_31, vb_X7_leastInAll_38, vb_X7_leastInAll_40, vb_X7_leastInAll_53, vb_X7_leastInAll_75, vb_X7_leastInAll_81, xI_0, xI_1, xI_3, xI_6, xI_7, xI_10, xI_15, xI_22, xI_36, xI_38, xI_39, xI_46, xI_47, xI_49, xI_51, xI_52, xI_61, xI_62, xw_X7_leastInAll_0, xw_X7_leastInAll_11, xw_X7_leastInAll_29, xw_X7_leastInAll_31, xw_X7_leastInAll_38, xw_X7_leastInAll_40, xw_X7_leastInAll_53, xw_X7_leastInAll_75, xw_X7_leastInAll_81, zw_lit, xB_c, xB_s, xB_n, i1_c, j2_c, k1_c, jJ_e, xlg, xls, xla, xpd, ppush, zw_m1, zw_m2, zw_m3, gf_1_2, gf_7_0, gf_7_3, gf_7_6, tg_1_2, tg_7_0, tg_7_3, tg_7_6, gv_1_2, gv_451_0, gv_451_3, gv_451_6, xD1, xD2, xD3, xD4, xD5, xD6, xb1_0, c, c'] at h
      exact ⟨H, u, hQ, hY, fun t ht => by rw [hR t ht, if_neg (by omega)], h⟩
    · have c' : 0 ≤ u := by omega
      have zp : zw (u + -1) = u - 1 := zw_lit (by omega) (by omega)
      have zp2 : zw (u + 4294967295) = u - 1 := zw_dec (by omega) (by omega)
      have hc : ∀ b : Nat, b < (S 0 0).toNat → ∀ u, 0 ≤ cuS (S 0) (dL (S 0)) (dN (S 0)) b u := fun b hb u => (cuS_in ok.1 ok.2.2.2 h5 (dN_in ok.1 h5).1 ⟨by omega, by omega⟩ u).1
      have h := xw_top (hd := [11, 40, 53, 75]) 11 xD6_ok xc_X7_leastInAll xa_X7_leastInAll (t := 53) rfl h
      simp (maxDischargeDepth := 12) -implicitDefEqProofs [vb_X7_leastInAll_0, vb_X7_leastInAll_11, vb_X7_leastInAll_29, vb_X7_leastInAll_31, vb_X7_leastInAll_38, vb_X7_leastInAll_40, vb_X7_leastInAll_53, vb_X7_leastInAll_75, vb_X7_leastInAll_81, xI_0, xI_1, xI_3, xI_6, xI_7, xI_10, xI_15, xI_22, xI_36, xI_38, xI_39, xI_46, xI_47, xI_49, xI_51, xI_52, xI_61, xI_62, xw_X7_leastInAll_0, xw_X7_leastInAll_11, xw_X7_leastInAll_29, xw_X7_leastInAll_31, xw_X7_leastInAll_38, xw_X7_leastInAll_40, xw_X7_leastInAll_53, xw_X7_leastInAll_75, xw_X7_leastInAll_81, zw_lit, xB_c, xB_s, xB_n, i1_c, j2_c, k1_c, jJ_e, xlg, xls, xla, xpd, ppush, zw_m1, zw_m2, zw_m3, gf_1_2, gf_7_0, gf_7_3, gf_7_6, tg_1_2, tg_7_0, tg_7_3, tg_7_6, gv_1_2, gv_451_0, gv_451_3, gv_451_6, xD1, xD2, xD3, xD4, xD5, xD6, xb1_0, c, c'] at h
      obtain ⟨r, H1, ⟨rfl, rfl⟩, g⟩ := xc_use h (sp_c_leastWith b u (dpA (S 0) (dL (S 0)) (dN (S 0)) al b.toNat) (S 0) al _ ok.1 ok.2.2.2 h5 hb ⟨c', by omega⟩ (hA b.toNat (by omega)) hY (fun t ht => ⟨by rw [hR t (by omega), if_pos (by omega)], dp_0 al (S 0 0).toNat hc b.toNat t (by omega), dp_top _ _ _ _ _ _⟩))
      have ev : lwF (dpA (S 0) (dL (S 0)) (dN (S 0)) al b.toNat) (cuS (S 0) (dL (S 0)) (dN (S 0)) b) u.toNat (u.toNat &&& al b.toNat) (u.toNat &&& al b.toNat) 536870912 = dpA (S 0) (dL (S 0)) (dN (S 0)) al (b.toNat + 1) u.toNat := by
        show _ = lwF (dpA (S 0) (dL (S 0)) (dN (S 0)) al b.toNat) (cuS (S 0) (dL (S 0)) (dN (S 0)) ((b.toNat : Nat) : Int)) u.toNat (u.toNat &&& al b.toNat) (u.toNat &&& al b.toNat) 536870912
        rw [show ((b.toNat : Nat) : Int) = b by omega]
      rw [ev] at g
      simp (maxDischargeDepth := 12) -implicitDefEqProofs [vb_X7_leastInAll_0, vb_X7_leastInAll_11, vb_X7_leastInAll_29, vb_X7_leastInAll_31, vb_X7_leastInAll_38, vb_X7_leastInAll_40, vb_X7_leastInAll_53, vb_X7_leastInAll_75, vb_X7_leastInAll_81, xI_0, xI_1, xI_3, xI_6, xI_7, xI_10, xI_15, xI_22, xI_36, xI_38, xI_39, xI_46, xI_47, xI_49, xI_51, xI_52, xI_61, xI_62, xw_X7_leastInAll_0, xw_X7_leastInAll_11, xw_X7_leastInAll_29, xw_X7_leastInAll_31, xw_X7_leastInAll_38, xw_X7_leastInAll_40, xw_X7_leastInAll_53, xw_X7_leastInAll_75, xw_X7_leastInAll_81, zw_lit, xB_c, xB_s, xB_n, i1_c, j2_c, k1_c, jJ_e, xlg, xls, xla, xpd, ppush, zw_m1, zw_m2, zw_m3, gf_1_2, gf_7_0, gf_7_3, gf_7_6, tg_1_2, tg_7_0, tg_7_3, tg_7_6, gv_1_2, gv_451_0, gv_451_3, gv_451_6, xD1, xD2, xD3, xD4, xD5, xD6, xb1_0, zp, zp2] at g
      obtain ⟨m, hm, g⟩ := g
      obtain ⟨H', u', k1, k2, k3, k4⟩ := ih m hm (u - 1) _ (by omega) (by omega) (SQ_up (by decide) hQ) (SY_row ok.1 hY) (fun t ht => by
        rw [xp_at]
        by_cases e : (t : Int) = u
        · rw [if_pos e, if_neg (by omega), show u.toNat = t by omega]
        · rw [if_neg e, hR t ht]
          by_cases w : (t : Int) ≤ u
          · rw [if_pos w, if_pos (by omega)]
          · rw [if_neg w, if_neg (by omega)]) g
      exact ⟨H', u', k1, k2, k3, xJ_up k4 (by omega)⟩
set_option maxRecDepth 100000 in
theorem lp_liaA40 (S : Int → Int → Int) (N : Int) (al : Nat → Nat) (H0 : PH) (h5 : dN (S 0) ≤ 5) (hA : SBA (S 0) al) {E : xE} {res : xR} : ∀ (n : Nat) (b u : Int) (H : PH), 0 ≤ b → b ≤ S 0 0 → SQ H0 H S N → SY (S 0) al H → (∀ t : Nat, t < pw2 (dN (S 0)) → H 467 t = dpA (S 0) (dL (S 0)) (dN (S 0)) al b.toNat t) → RUN E res n kd_X7_leastInAll (zget kd_X7_leastInAll 40) 40 [451, ((pw2 (dN (S 0)) : Nat) : Int) - 1, b, u] [] H → ∃ H', SQ H0 H' S N ∧ SY (S 0) al H' ∧ REPR E res (some (0, dpA (S 0) (dL (S 0)) (dN (S 0)) al (S 0 0).toNat (pw2 (dN (S 0)) - 1))) H' := by
  have p2 : pw2 (dN (S 0)) ≤ 32 := p32 h5
  have pp : 0 < pw2 (dN (S 0)) := (Nat.pow_pos (by decide) : 0 < 2 ^ dN (S 0))
  intro n
  induction n using Nat.strongRecOn with
  | _ n ih =>
    intro b u H b0 b1 hQ hY hR h
    have ok := RC_sz hQ.1.1
    have a0 := ok.1.1
    have e2 : H 1 2 = S 0 0 := hQ.1.1.1.1.1.1.symm
    by_cases c : b < S 0 0
    · have c' : ¬ S 0 0 ≤ b := by omega
      have z1 : zw (b + 1) = b + 1 := zw_lit (by omega) (by omega)
      have h := xw_top (hd := [11, 40, 53, 75]) 11 xD6_ok xc_X7_leastInAll xa_X7_leastInAll (t := 40) rfl h
      simp (maxDischargeDepth := 12) -implicitDefEqProofs [vb_X7_leastInAll_0, vb_X7_leastInAll_11, vb_X7_leastInAll_29, vb_X7_leastInAll_31, vb_X7_leastInAll_38, vb_X7_leastInAll_40, vb_X7_leastInAll_53, vb_X7_leastInAll_75, vb_X7_leastInAll_81, xI_0, xI_1, xI_3, xI_6, xI_7, xI_10, xI_15, xI_22, xI_36, xI_38, xI_39, xI_46, xI_47, xI_49, xI_51, xI_52, xI_61, xI_62, xw_X7_leastInAll_0, xw_X7_leastInAll_11, xw_X7_leastInAll_29, xw_X7_leastInAll_31, xw_X7_leastInAll_38, xw_X7_leastInAll_40, xw_X7_leastInAll_53, xw_X7_leastInAll_75, xw_X7_leastInAll_81, zw_lit, xB_c, xB_s, xB_n, i1_c, j2_c, k1_c, jJ_e, xlg, xls, xla, xpd, ppush, zw_m1, zw_m2, zw_m3, gf_1_2, gf_7_0, gf_7_3, gf_7_6, tg_1_2, tg_7_0, tg_7_3, tg_7_6, gv_1_2, gv_451_0, gv_451_3, gv_451_6, xD1, xD2, xD3, xD4, xD5, xD6, xb1_0, e2, c, c'] at h
      obtain ⟨m, hm, h⟩ := h
      obtain ⟨H1, u1, k1, k2, k3, m2, hm2, k4⟩ := lp_liaA53 b S N al H0 ⟨b0, c⟩ h5 hA m _ H (by omega) (by omega) hQ hY (fun t ht => by rw [hR t ht, if_pos (by omega)]) h
      have k4 := xw_top (hd := [11, 40, 53, 75]) 11 xD6_ok xc_X7_leastInAll xa_X7_leastInAll (t := 75) rfl k4
      simp (maxDischargeDepth := 12) -implicitDefEqProofs [vb_X7_leastInAll_0, vb_X7_leastInAll_11, vb_X7_leastInAll_29, vb_X7_leastInAll_31, vb_X7_leastInAll_38, vb_X7_leastInAll_40, vb_X7_leastInAll_53, vb_X7_leastInAll_75, vb_X7_leastInAll_81, xI_0, xI_1, xI_3, xI_6, xI_7, xI_10, xI_15, xI_22, xI_36, xI_38, xI_39, xI_46, xI_47, xI_49, xI_51, xI_52, xI_61, xI_62, xw_X7_leastInAll_0, xw_X7_leastInAll_11, xw_X7_leastInAll_29, xw_X7_leastInAll_31, xw_X7_leastInAll_38, xw_X7_leastInAll_40, xw_X7_leastInAll_53, xw_X7_leastInAll_75, xw_X7_leastInAll_81, zw_lit, xB_c, xB_s, xB_n, i1_c, j2_c, k1_c, jJ_e, xlg, xls, xla, xpd, ppush, zw_m1, zw_m2, zw_m3, gf_1_2, gf_7_0, gf_7_3, gf_7_6, tg_1_2, tg_7_0, tg_7_3, tg_7_6, gv_1_2, gv_451_0, gv_451_3, gv_451_6, xD1, xD2, xD3, xD4, xD5, xD6, xb1_0, z1] at k4
      obtain ⟨m3, hm3, k4⟩ := k4
      exact ih m3 (by omega) (b + 1) _ H1 (by omega) (by omega) k1 k2 (fun t ht => by rw [k3 t ht, show (b + 1).toNat = b.toNat + 1 by omega]) k4
    · have c' : S 0 0 ≤ b := by omega
      have er := hR (pw2 (dN (S 0)) - 1) (by omega)
      rw [show b.toNat = (S 0 0).toNat by omega, show (((pw2 (dN (S 0)) - 1 : Nat)) : Int) = ((pw2 (dN (S 0)) : Nat) : Int) - 1 by omega] at er
      have h := xw_top (hd := [11, 40, 53, 75]) 11 xD6_ok xc_X7_leastInAll xa_X7_leastInAll (t := 40) rfl h
      simp (maxDischargeDepth := 12) -implicitDefEqProofs [vb_X7_leastInAll_0, vb_X7_leastInAll_11, vb_X7_leastInAll_29, vb_X7_leastInAll_31, vb_X7_leastInAll_38, vb_X7_leastInAll_40, vb_X7_leastInAll_53, vb_X7_leastInAll_75, vb_X7_leastInAll_81, xI_0, xI_1, xI_3, xI_6, xI_7, xI_10, xI_15, xI_22, xI_36, xI_38, xI_39, xI_46, xI_47, xI_49, xI_51, xI_52, xI_61, xI_62, xw_X7_leastInAll_0, xw_X7_leastInAll_11, xw_X7_leastInAll_29, xw_X7_leastInAll_31, xw_X7_leastInAll_38, xw_X7_leastInAll_40, xw_X7_leastInAll_53, xw_X7_leastInAll_75, xw_X7_leastInAll_81, zw_lit, xB_c, xB_s, xB_n, i1_c, j2_c, k1_c, jJ_e, xlg, xls, xla, xpd, ppush, zw_m1, zw_m2, zw_m3, gf_1_2, gf_7_0, gf_7_3, gf_7_6, tg_1_2, tg_7_0, tg_7_3, tg_7_6, gv_1_2, gv_451_0, gv_451_3, gv_451_6, xD1, xD2, xD3, xD4, xD5, xD6, xb1_0, e2, c, c', er] at h
      exact ⟨H, hQ, hY, h⟩
set_option maxRecDepth 100000 in
theorem lp_liaA11 (S : Int → Int → Int) (N : Int) (al : Nat → Nat) (H0 : PH) (h5 : dN (S 0) ≤ 5) (hA : SBA (S 0) al) {E : xE} {res : xR} : ∀ (n : Nat) (u x : Int) (H : PH), 0 ≤ u → u ≤ ((pw2 (dN (S 0)) : Nat) : Int) → SQ H0 H S N → SY (S 0) al H → (∀ t : Nat, (t : Int) < u → H 467 t = dpA (S 0) (dL (S 0)) (dN (S 0)) al 0 t) → RUN E res n kd_X7_leastInAll (zget kd_X7_leastInAll 11) 11 [451, ((pw2 (dN (S 0)) : Nat) : Int) - 1, u, x] [] H → ∃ H', SQ H0 H' S N ∧ SY (S 0) al H' ∧ REPR E res (some (0, dpA (S 0) (dL (S 0)) (dN (S 0)) al (S 0 0).toNat (pw2 (dN (S 0)) - 1))) H' := by
  have p2 : pw2 (dN (S 0)) ≤ 32 := p32 h5
  intro n
  induction n using Nat.strongRecOn with
  | _ n ih =>
    intro u x H u0 u1 hQ hY hR h
    have ok := RC_sz hQ.1.1
    have a0 := ok.1.1
    have z1 : zw (u + 1) = u + 1 := zw_lit (by omega) (by omega)
    by_cases c : ((pw2 (dN (S 0)) : Nat) : Int) - 1 < u
    · have c' : ¬ u ≤ ((pw2 (dN (S 0)) : Nat) : Int) - 1 := by omega
      have h := xw_top (hd := [11, 40, 53, 75]) 11 xD6_ok xc_X7_leastInAll xa_X7_leastInAll (t := 11) rfl h
      simp (maxDischargeDepth := 12) -implicitDefEqProofs [vb_X7_leastInAll_0, vb_X7_leastInAll_11, vb_X7_leastInAll_29, vb_X7_leastInAll_31, vb_X7_leastInAll_38, vb_X7_leastInAll_40, vb_X7_leastInAll_53, vb_X7_leastInAll_75, vb_X7_leastInAll_81, xI_0, xI_1, xI_3, xI_6, xI_7, xI_10, xI_15, xI_22, xI_36, xI_38, xI_39, xI_46, xI_47, xI_49, xI_51, xI_52, xI_61, xI_62, xw_X7_leastInAll_0, xw_X7_leastInAll_11, xw_X7_leastInAll_29, xw_X7_leastInAll_31, xw_X7_leastInAll_38, xw_X7_leastInAll_40, xw_X7_leastInAll_53, xw_X7_leastInAll_75, xw_X7_leastInAll_81, zw_lit, xB_c, xB_s, xB_n, i1_c, j2_c, k1_c, jJ_e, xlg, xls, xla, xpd, ppush, zw_m1, zw_m2, zw_m3, gf_1_2, gf_7_0, gf_7_3, gf_7_6, tg_1_2, tg_7_0, tg_7_3, tg_7_6, gv_1_2, gv_451_0, gv_451_3, gv_451_6, xD1, xD2, xD3, xD4, xD5, xD6, xb1_0, c, c'] at h
      obtain ⟨m, hm, h⟩ := h
      exact lp_liaA40 S N al H0 h5 hA m 0 _ H (by decide) a0.1 hQ hY (fun t ht => hR t (by omega)) h
    · have c' : u ≤ ((pw2 (dN (S 0)) : Nat) : Int) - 1 := by omega
      by_cases e : u = 0
      · have e' : (u = 0) = True := eq_true e
        have h := xw_top (hd := [11, 40, 53, 75]) 11 xD6_ok xc_X7_leastInAll xa_X7_leastInAll (t := 11) rfl h
        simp (maxDischargeDepth := 12) -implicitDefEqProofs [vb_X7_leastInAll_0, vb_X7_leastInAll_11, vb_X7_leastInAll_29, vb_X7_leastInAll_31, vb_X7_leastInAll_38, vb_X7_leastInAll_40, vb_X7_leastInAll_53, vb_X7_leastInAll_75, vb_X7_leastInAll_81, xI_0, xI_1, xI_3, xI_6, xI_7, xI_10, xI_15, xI_22, xI_36, xI_38, xI_39, xI_46, xI_47, xI_49, xI_51, xI_52, xI_61, xI_62, xw_X7_leastInAll_0, xw_X7_leastInAll_11, xw_X7_leastInAll_29, xw_X7_leastInAll_31, xw_X7_leastInAll_38, xw_X7_leastInAll_40, xw_X7_leastInAll_53, xw_X7_leastInAll_75, xw_X7_leastInAll_81, zw_lit, xB_c, xB_s, xB_n, i1_c, j2_c, k1_c, jJ_e, xlg, xls, xla, xpd, ppush, zw_m1, zw_m2, zw_m3, gf_1_2, gf_7_0, gf_7_3, gf_7_6, tg_1_2, tg_7_0, tg_7_3, tg_7_6, gv_1_2, gv_451_0, gv_451_3, gv_451_6, xD1, xD2, xD3, xD4, xD5, xD6, xb1_0, c, c', e', z1] at h
        obtain ⟨m, hm, h⟩ := h
        exact ih m hm (u + 1) _ _ (by omega) (by omega) (SQ_up (by decide) hQ) (SY_row ok.1 hY) (fun t ht => by
          have t0 : t = 0 := by omega
          subst t0
          rw [xp_at, if_pos (by omega)]
          rfl) h
      · have h := xw_top (hd := [11, 40, 53, 75]) 11 xD6_ok xc_X7_leastInAll xa_X7_leastInAll (t := 11) rfl h
        simp (maxDischargeDepth := 12) -implicitDefEqProofs [vb_X7_leastInAll_0, vb_X7_leastInAll_11, vb_X7_leastInAll_29, vb_X7_leastInAll_31, vb_X7_leastInAll_38, vb_X7_leastInAll_40, vb_X7_leastInAll_53, vb_X7_leastInAll_75, vb_X7_leastInAll_81, xI_0, xI_1, xI_3, xI_6, xI_7, xI_10, xI_15, xI_22, xI_36, xI_38, xI_39, xI_46, xI_47, xI_49, xI_51, xI_52, xI_61, xI_62, xw_X7_leastInAll_0, xw_X7_leastInAll_11, xw_X7_leastInAll_29, xw_X7_leastInAll_31, xw_X7_leastInAll_38, xw_X7_leastInAll_40, xw_X7_leastInAll_53, xw_X7_leastInAll_75, xw_X7_leastInAll_81, zw_lit, xB_c, xB_s, xB_n, i1_c, j2_c, k1_c, jJ_e, xlg, xls, xla, xpd, ppush, zw_m1, zw_m2, zw_m3, gf_1_2, gf_7_0, gf_7_3, gf_7_6, tg_1_2, tg_7_0, tg_7_3, tg_7_6, gv_1_2, gv_451_0, gv_451_3, gv_451_6, xD1, xD2, xD3, xD4, xD5, xD6, xb1_0, c, c', e, z1] at h
        obtain ⟨m, hm, h⟩ := h
        exact ih m hm (u + 1) _ _ (by omega) (by omega) (SQ_up (by decide) hQ) (SY_row ok.1 hY) (fun t ht => by
          rw [xp_at]
          by_cases q : (t : Int) = u
          · rw [if_pos q]
            exact (if_neg (by omega)).symm
          · rw [if_neg q]
            exact hR t (by omega)) h
set_option maxRecDepth 100000 in
theorem sp_c_leastInAll (S : Int → Int → Int) (n : Int) (al : Nat → Nat) (H0 H : PH) (h5 : dN (S 0) ≤ 5) (hA : SBA (S 0) al) (hQ : SQ H0 H S n) (hY : SY (S 0) al H) : SPEC 67 [(2, 451)] H (fun r H' => r = some (0, dpA (S 0) (dL (S 0)) (dN (S 0)) al (S 0 0).toNat (pw2 (dN (S 0)) - 1)) ∧ SQ H0 H' S n ∧ SY (S 0) al H') := by
  intro E n' res h
  have p2 : pw2 (dN (S 0)) ≤ 32 := p32 h5
  have e3 := hY.1.1
  have sh := shl_T (i := (dN (S 0) : Int)) (by omega)
  rw [Int.toNat_natCast] at sh
  have zf : zw (((pw2 (dN (S 0)) : Nat) : Int) - 1) = ((pw2 (dN (S 0)) : Nat) : Int) - 1 := zw_lit (by omega) (by omega)
  have h := call_runP 4 vm_X7_leastInAll h
  have h := xw_top (hd := [11, 40, 53, 75]) 11 xD6_ok xc_X7_leastInAll xa_X7_leastInAll (t := 0) rfl h
  simp (maxDischargeDepth := 12) -implicitDefEqProofs [vb_X7_leastInAll_0, vb_X7_leastInAll_11, vb_X7_leastInAll_29, vb_X7_leastInAll_31, vb_X7_leastInAll_38, vb_X7_leastInAll_40, vb_X7_leastInAll_53, vb_X7_leastInAll_75, vb_X7_leastInAll_81, xI_0, xI_1, xI_3, xI_6, xI_7, xI_10, xI_15, xI_22, xI_36, xI_38, xI_39, xI_46, xI_47, xI_49, xI_51, xI_52, xI_61, xI_62, xw_X7_leastInAll_0, xw_X7_leastInAll_11, xw_X7_leastInAll_29, xw_X7_leastInAll_31, xw_X7_leastInAll_38, xw_X7_leastInAll_40, xw_X7_leastInAll_53, xw_X7_leastInAll_75, xw_X7_leastInAll_81, zw_lit, xB_c, xB_s, xB_n, i1_c, j2_c, k1_c, jJ_e, xlg, xls, xla, xpd, ppush, zw_m1, zw_m2, zw_m3, gf_1_2, gf_7_0, gf_7_3, gf_7_6, tg_1_2, tg_7_0, tg_7_3, tg_7_6, gv_1_2, gv_451_0, gv_451_3, gv_451_6, xD1, xD2, xD3, xD4, xD5, xD6, xb1_0, e3, sh, zf] at h
  obtain ⟨m, hm, h⟩ := h
  obtain ⟨H', k1, k2, k3⟩ := lp_liaA11 S n al H0 h5 hA m 0 _ H (by decide) (by omega) hQ hY (fun t ht => by omega) h
  exact ⟨_, H', k3, rfl, k1, k2⟩
def alO (al : Nat → Nat) (i only b : Nat) : Nat := if b = only then clr (al b) i ||| 2 ^ i else clr (al b) i
set_option maxRecDepth 100000 in
theorem lp_aloA (i b : Int) (S : Int → Int → Int) (N : Int) (al : Nat → Nat) (H0 : PH) (hi : 0 ≤ i ∧ i < 5) (hb : 0 ≤ b ∧ b < S 0 0) {E : xE} {res : xR} : ∀ (n : Nat) (u : Int) (H : PH), 0 ≤ u → u ≤ S 0 0 → SQ H0 H S N → SY (S 0) (fun x => if (x : Int) < u then clr (al x) i.toNat else al x) H → (∀ x : Nat, (x : Int) < S 0 0 → al x < 32) → RUN E res n kd_X7_allowOnly (zget kd_X7_allowOnly 2) 2 [451, i, b, u] [] H → ∃ H', SQ H0 H' S N ∧ SY (S 0) (alO al i.toNat b.toNat) H' ∧ REPR E res none H' := by
  intro n
  induction n using Nat.strongRecOn with
  | _ n ih =>
    intro u H u0 u1 hQ hY hal h
    have ok := RC_sz hQ.1.1
    have a0 := ok.1.1
    have e2 : H 1 2 = S 0 0 := hQ.1.1.1.1.1.1.symm
    have z1 : zw (u + 1) = u + 1 := zw_lit (by omega) (by omega)
    have sh := shl_T (i := i) (by omega)
    by_cases c : u < S 0 0
    · have c' : ¬ S 0 0 ≤ u := by omega
      have ea := (hY.2.1 u.toNat (by omega)).1
      rw [show ((u.toNat : Nat) : Int) = u by omega] at ea
      have ea : H 453 u = ((if ((u.toNat : Nat) : Int) < u then clr (al u.toNat) i.toNat else al u.toNat : Nat) : Int) := ea
      rw [if_neg (by omega)] at ea
      have a32 := hal u.toNat (by omega)
      have cl := clr_T (a := (al u.toNat : Int)) (i := i) (by omega) hi
      rw [Int.toNat_natCast] at cl
      have cl1 := cl.1
      have h := xw_top (hd := [2]) 5 xD6_ok xc_X7_allowOnly xa_X7_allowOnly (t := 2) rfl h
      simp (maxDischargeDepth := 12) -implicitDefEqProofs [vb_X7_allowOnly_0, vb_X7_allowOnly_2, vb_X7_allowOnly_33, xI_0, xI_1, xI_3, xI_6, xI_7, xI_19, xI_20, xI_21, xI_22, xI_34, xI_36, xI_46, xI_49, xI_51, xI_52, xI_65, xw_X7_allowOnly_0, xw_X7_allowOnly_2, xw_X7_allowOnly_33, zw_lit, xB_c, xB_s, xB_n, i1_c, j2_c, k1_c, jJ_e, xlg, xls, xla, xpd, ppush, zw_m1, zw_m2, zw_m3, gf_1_2, gf_7_0, gf_7_4, tg_1_2, tg_7_0, tg_7_4, gv_1_2, gv_451_0, gv_451_4, xD1, xD2, xD3, xD4, xD5, xD6, xb1_0, e2, c, c', ea, sh, cl1, z1] at h
      obtain ⟨m, hm, h⟩ := h
      refine ih m hm (u + 1) _ (by omega) (by omega) (SQ_up (by decide) hQ) ⟨DLn_up (by decide) hY.1, fun x hx => ?_, fun x v hx hv => by rw [xp_ne (by omega)]; exact hY.2.2 x v hx hv⟩ hal h
      rw [xp_at]
      by_cases q : (x : Int) = u
      · have qx : x = u.toNat := by omega
        dsimp only
        rw [if_pos q, if_pos (by omega), qx]
        exact ⟨rfl, cl.2.1⟩
      · have hh := hY.2.1 x hx
        dsimp only at hh ⊢
        rw [if_neg q]
        by_cases w : (x : Int) < u
        · rw [if_pos w] at hh
          rw [if_pos (by omega)]
          exact hh
        · rw [if_neg w] at hh
          rw [if_neg (by omega)]
          exact hh
    · have c' : S 0 0 ≤ u := by omega
      have ea := hY.2.1 b.toNat (by omega)
      dsimp only at ea
      rw [show ((b.toNat : Nat) : Int) = b by omega, if_pos (by omega)] at ea
      have a32 := hal b.toNat (by omega)
      have cl := clr_T (a := (al b.toNat : Int)) (i := i) (by omega) hi
      rw [Int.toNat_natCast] at cl
      have i32 : pw2 i.toNat < 32 := by
        have : 2 ^ i.toNat ≤ 2 ^ 4 := Nat.pow_le_pow_right (by decide) (by omega)
        show 2 ^ i.toNat < 32
        omega
      have ort := (and_T (x := (clr (al b.toNat) i.toNat : Int)) (y := ((pw2 i.toNat : Nat) : Int)) (by omega) (by omega)).2
      rw [Int.toNat_natCast, Int.toNat_natCast] at ort
      have ea1 := ea.1
      have h := xw_top (hd := [2]) 5 xD6_ok xc_X7_allowOnly xa_X7_allowOnly (t := 2) rfl h
      simp (maxDischargeDepth := 12) -implicitDefEqProofs [vb_X7_allowOnly_0, vb_X7_allowOnly_2, vb_X7_allowOnly_33, xI_0, xI_1, xI_3, xI_6, xI_7, xI_19, xI_20, xI_21, xI_22, xI_34, xI_36, xI_46, xI_49, xI_51, xI_52, xI_65, xw_X7_allowOnly_0, xw_X7_allowOnly_2, xw_X7_allowOnly_33, zw_lit, xB_c, xB_s, xB_n, i1_c, j2_c, k1_c, jJ_e, xlg, xls, xla, xpd, ppush, zw_m1, zw_m2, zw_m3, gf_1_2, gf_7_0, gf_7_4, tg_1_2, tg_7_0, tg_7_4, gv_1_2, gv_451_0, gv_451_4, xD1, xD2, xD3, xD4, xD5, xD6, xb1_0, e2, c, c', ea1, sh, ort] at h
      refine ⟨_, SQ_up (by decide) hQ, ⟨DLn_up (by decide) hY.1, fun x hx => ?_, fun x v hx hv => by rw [xp_ne (by omega)]; exact hY.2.2 x v hx hv⟩, h⟩
      rw [xp_at]
      unfold alO
      by_cases q : (x : Int) = b
      · have qx : x = b.toNat := by omega
        rw [if_pos q, if_pos qx, qx]
        exact ⟨rfl, cl.2.2⟩
      · have hh := hY.2.1 x hx
        dsimp only at hh
        rw [if_pos (by omega)] at hh
        rw [if_neg q, if_neg (by omega)]
        exact hh
set_option maxRecDepth 100000 in
theorem sp_c_allowOnly (i b : Int) (S : Int → Int → Int) (n : Int) (al : Nat → Nat) (H0 H : PH) (hi : 0 ≤ i ∧ i < 5) (hb : 0 ≤ b ∧ b < S 0 0) (hQ : SQ H0 H S n) (hY : SY (S 0) al H) : SPEC 71 [(2, 451), (0, i), (0, b)] H (fun r H' => r = none ∧ SQ H0 H' S n ∧ SY (S 0) (alO al i.toNat b.toNat) H') := by
  intro E n' res h
  have ok := RC_sz hQ.1.1
  have h := call_runP 4 vm_X7_allowOnly h
  have h := xw_top (hd := [2]) 5 xD6_ok xc_X7_allowOnly xa_X7_allowOnly (t := 0) rfl h
  simp (maxDischargeDepth := 12) -implicitDefEqProofs [vb_X7_allowOnly_0, vb_X7_allowOnly_2, vb_X7_allowOnly_33, xI_0, xI_1, xI_3, xI_6, xI_7, xI_19, xI_20, xI_21, xI_22, xI_34, xI_36, xI_46, xI_49, xI_51, xI_52, xI_65, xw_X7_allowOnly_0, xw_X7_allowOnly_2, xw_X7_allowOnly_33, zw_lit, xB_c, xB_s, xB_n, i1_c, j2_c, k1_c, jJ_e, xlg, xls, xla, xpd, ppush, zw_m1, zw_m2, zw_m3, gf_1_2, gf_7_0, gf_7_4, tg_1_2, tg_7_0, tg_7_4, gv_1_2, gv_451_0, gv_451_4, xD1, xD2, xD3, xD4, xD5, xD6, xb1_0] at h
  obtain ⟨m, hm, h⟩ := h
  have e : (fun x : Nat => if (x : Int) < 0 then clr (al x) i.toNat else al x) = al := funext fun x => if_neg (by omega)
  obtain ⟨H', k1, k2, k3⟩ := lp_aloA i b S n al H0 hi hb m 0 H (by decide) ok.1.1.1 hQ (by rw [e]; exact hY) (fun x hx => (hY.2.1 x hx).2) h
  exact ⟨_, H', k3, rfl, k1, k2⟩
