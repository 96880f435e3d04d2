/-! a line is struck, the whole -/
theorem gvD_all : ∀ l : Nat, l < 20 → zrt (469 + 6 * l) 4 = none ∧ zrt (469 + 6 * l) 5 = none := by decide +kernel
theorem gvD {l i : Int} (l0 : 0 ≤ l) (l1 : l < 20) (hi : i = 4 ∨ i = 5) (X : PH) : gv X (469 + 6 * l) i = X (469 + 6 * l) i := by
  obtain ⟨n, rfl⟩ := Int.eq_ofNat_of_zero_le l0
  have g := gvD_all n (by omega)
  unfold gv
  rw [show (469 + 6 * (n : Int)).toNat = 469 + 6 * n by omega]
  rcases hi with rfl | rfl
  · rw [show (4 : Int).toNat = 4 from rfl, g.1]
  · rw [show (5 : Int).toNat = 5 from rfl, g.2]
set_option maxRecDepth 100000 in
theorem sp_c_strike (k : Int) (S : Int → Int → Int) (n : Int) (H : PH) (hR : RC H S n) : SPEC 141 [(2, 0), (0, k)] H (fun r H' => ((0 ≤ k ∧ k < S 0 2) ∧ r = some (0, S 0 2 - 1) ∧ CD H H' S n (strA (S 0) k)) ∨ (¬ (0 ≤ k ∧ k < S 0 2) ∧ r = some (0, -1) ∧ H' = H)) := by
  intro E n' res h
  obtain ⟨x1, x2, ld, x4, h8, x6, x7⟩ := id hR
  have ok0 := RC_sz hR
  have a2 := ok0.1.2.2.1
  have lx := dnx_in h8
  obtain ⟨s0, s1, s2, s3, s4, s5, s6, s7, s8, s9⟩ := id x1.1.1
  have z2 : zw (H 1 4 - 1) = H 1 4 - 1 := zw_lit (by omega) (by omega)
  by_cases q : 0 ≤ k ∧ k < S 0 2
  · have k0 := q.1
    have k1 : k ≤ H 1 4 - 1 := by omega
    have k2 : ¬ k < 0 := by omega
    have k3 : ¬ H 1 4 - 1 < k := by omega
    have h := call_runP 3 vm_X11_strike h
    have h := xw_top (hd := []) 4 xD6_ok xc_X11_strike xa_X11_strike (t := 0) rfl h
    simp (maxDischargeDepth := 12) -implicitDefEqProofs [vb_X11_strike_0, vb_X11_strike_10, xI_0, xI_1, xI_4, xI_7, xI_8, xI_38, xI_49, xI_50, xI_61, xI_62, xw_X11_strike_0, xw_X11_strike_10, zw_lit, xB_c, xB_s, xB_n, i1_c, j2_c, k1_c, jJ_e, xlg, xls, xla, xpd, ppush, zw_m1, zw_m2, zw_m3, gf_1_4, gf_2_5, gf_11_0, pf_2_197, tg_11_0, tg_1_4, tg_2_5, gv_1_4, gv_0_0, xD1, xD2, xD3, xD4, xD5, xD6, xb1_0, z2, k0, k1, k2, k3] at h
    obtain ⟨r, H1, ⟨rfl, rfl⟩, g⟩ := xc_use h (sp_nd 7 k 0 0 H (by omega) h8)
    have gd : ∀ X : PH, gv X (469 + 6 * dnx (H 0 8)) 5 = X (469 + 6 * dnx (H 0 8)) 5 := fun X => gvD lx.1 lx.2 (Or.inr rfl) X
    have na := nd_at (H := H) (k := 7) (a := k) (b := 0) (d := 0) h8
    have n1 : ndHx H 7 k 0 0 1 = H 1 := nd_ne h8 (by decide) (by omega) (by decide) (by decide) (by decide)
    have n47 : ndHx H 7 k 0 0 47 = H 47 := nd_ne h8 (by decide) (by omega) (by decide) (by decide) (by decide)
    have nd1 : ¬ (1 : Int) = 469 + 6 * dnx (H 0 8) := by omega
    simp (maxDischargeDepth := 12) -implicitDefEqProofs [vb_X11_strike_0, vb_X11_strike_10, xI_0, xI_1, xI_4, xI_7, xI_8, xI_38, xI_49, xI_50, xI_61, xI_62, xw_X11_strike_0, xw_X11_strike_10, zw_lit, xB_c, xB_s, xB_n, i1_c, j2_c, k1_c, jJ_e, xlg, xls, xla, xpd, ppush, zw_m1, zw_m2, zw_m3, gf_1_4, gf_2_5, gf_11_0, pf_2_197, tg_11_0, tg_1_4, tg_2_5, gv_1_4, gv_0_0, xD1, xD2, xD3, xD4, xD5, xD6, xb1_0, gd, na.2.2.2.2.2.2 5 (by decide)] at g
    obtain ⟨r, H2, ⟨rfl, g4, gc, g1, g47⟩, g⟩ := xc_use g (sp_X1_takeOut k (H (469 + 6 * dnx (H 0 8)) 5) (S 0 2) (ndHx H 7 k 0 0) q a2.2 (by rw [n1]; exact s2.symm))
    simp (maxDischargeDepth := 12) -implicitDefEqProofs [vb_X11_strike_0, vb_X11_strike_10, xI_0, xI_1, xI_4, xI_7, xI_8, xI_38, xI_49, xI_50, xI_61, xI_62, xw_X11_strike_0, xw_X11_strike_10, zw_lit, xB_c, xB_s, xB_n, i1_c, j2_c, k1_c, jJ_e, xlg, xls, xla, xpd, ppush, zw_m1, zw_m2, zw_m3, gf_1_4, gf_2_5, gf_11_0, pf_2_197, tg_11_0, tg_1_4, tg_2_5, gv_1_4, gv_0_0, xD1, xD2, xD3, xD4, xD5, xD6, xb1_0, xp_ne, nd1, g4, n47] at g
    have dl := ld.2.1 _ lx.1 lx.2
    -- what lies behind
    obtain ⟨G, hGdef⟩ : ∃ G : PH, G = pup H2 (469 + 6 * dnx (H 0 8)) 5 (H 47 k) := ⟨_, rfl⟩
    rw [← hGdef] at g
    have G0 : ∀ c, ¬ c = 0 → ¬ c = 1 → ¬ c = 47 → ¬ c = 469 + 6 * dnx (H 0 8) → ¬ c = 215 → ¬ c = 221 → ¬ c = 372 → G c = H c := fun c c0 c1 c47 cd c5 c6 c7 => by
      rw [hGdef, xp_ne cd, gc c c1 c47, nd_ne h8 c0 cd c5 c6 c7]
    have G1 : ∀ i, ¬ i = 4 → G 1 i = H 1 i := fun i hi => by rw [hGdef, xp_ne nd1, g1 i hi, n1]
    have G47 : ∀ j, G 47 j = if j = S 0 2 - 1 then H (469 + 6 * dnx (H 0 8)) 5 else H 47 (stI k (S 0 2) j) := fun j => by rw [hGdef, xp_ne (by omega), g47, n47]
    have Gd : ∀ i, G (469 + 6 * dnx (H 0 8)) i = if i = 5 then H 47 k else ndHx H 7 k 0 0 (469 + 6 * dnx (H 0 8)) i := fun i => by rw [hGdef, xp_at, gc _ (by omega) (by omega)]
    have Gz : ∀ c, c = 0 ∨ c = 215 ∨ c = 221 ∨ c = 372 ∨ c = 213 ∨ c = 214 → G c = ndHx H 7 k 0 0 c := fun c hc => by rw [hGdef, xp_ne (by omega), gc c (by omega) (by omega)]
    have hq := ld.1.1 k k0 (by omega)
    have ho : KL (H (469 + 6 * dnx (H 0 8)) 5) ∧ ∀ j, 0 ≤ j → j < 60 → ¬ H (469 + 6 * dnx (H 0 8)) 5 = H 47 j := ⟨dl.2, fun j j0 j1 => ld.2.2.2.2.2.1 _ j lx.1 lx.2 j0 j1⟩
    have ci : CI G (strA (S 0) k) := CI_str ok0.1 (OKR_11 ok0).2 x1 q G1 (by rw [hGdef, xp_ne nd1]; exact g4) G47 (fun c c0 c1 c47 cz cd => G0 c c0 c1 c47 (cd _ lx.1 lx.2) (by omega) (by omega) (by omega)) ho
    have E1 : strA (S 0) k 1 = S 0 1 := strA_o (by decide) (by omega)
    have cp : CPr G (strA (S 0) k) := by
      have e := CPr_fr (H' := G) (A := S 0) (G0 42 (by decide) (by decide) (by decide) (by omega) (by decide) (by decide) (by decide)) (G0 43 (by decide) (by decide) (by decide) (by omega) (by decide) (by decide) (by decide)) x2
      have c1 := ok0.1.2.1
      unfold CPr at e ⊢
      rw [E1]
      exact ⟨fun j j0 j1 => by rw [strA_o (by omega) (by omega), strA_o (by omega) (by omega)]; exact e.1 j j0 j1, e.2⟩
    have Gl : ∀ l, 0 ≤ l → l < 20 → ¬ l = dnx (H 0 8) → G (469 + 6 * l) = H (469 + 6 * l) := fun l l0 l1 ne => G0 _ (by omega) (by omega) (by omega) (by omega) (by omega) (by omega) (by omega)
    have G4 : ∀ l, 0 ≤ l → l < 20 → G (469 + 6 * l) 4 = H (469 + 6 * l) 4 := fun l l0 l1 => by
      by_cases e : l = dnx (H 0 8)
      · rw [e, Gd, if_neg (by decide), na.2.2.2.2.2.2 4 (by decide)]
      · rw [Gl l l0 l1 e]
    have G5 : ∀ l, 0 ≤ l → l < 20 → G (469 + 6 * l) 5 = if l = dnx (H 0 8) then H 47 k else H (469 + 6 * l) 5 := fun l l0 l1 => by
      by_cases e : l = dnx (H 0 8)
      · rw [e, Gd, if_pos rfl, if_pos rfl]
      · rw [Gl l l0 l1 e, if_neg e]
    have ldG : LDA G := by
      obtain ⟨d1, d2, d3, d4, d5, d6, d7⟩ := ld
      refine ⟨ci.2.2, fun l l0 l1 => ?_, by rw [G1 5 (by decide), G1 6 (by decide)]; exact d3, fun l l0 l1 => by rw [G4 l l0 l1, G1 5 (by decide), G1 6 (by decide)]; exact d4 l l0 l1, fun l m l0 l1 m0 m1 w => ?_, fun l m l0 l1 m0 m1 => ?_, fun l m l0 l1 m0 m1 w => ?_⟩
      · rw [G4 l l0 l1, G5 l l0 l1]
        refine ⟨(d2 l l0 l1).1, ?_⟩
        split
        · exact hq
        · exact (d2 l l0 l1).2
      · rw [G4 l l0 l1, G4 m m0 m1] at w
        exact d5 l m l0 l1 m0 m1 w
      · rw [G5 l l0 l1, G47]
        by_cases e : l = dnx (H 0 8)
        · rw [if_pos e]
          by_cases p : m = S 0 2 - 1
          · rw [if_pos p]
            exact fun w => d6 _ k lx.1 lx.2 k0 (by omega) w.symm
          · rw [if_neg p]
            have := stI_in q a2.2 m0 m1 p
            exact fun w => this.2.2 (d1.2 _ _ k0 (by omega) this.1 this.2.1 w).symm
        · rw [if_neg e]
          by_cases p : m = S 0 2 - 1
          · rw [if_pos p]
            exact fun w => e (d7 l _ l0 l1 lx.1 lx.2 w)
          · rw [if_neg p]
            have := stI_in q a2.2 m0 m1 p
            exact d6 l _ l0 l1 this.1 this.2.1
      · rw [G5 l l0 l1, G5 m m0 m1] at w
        by_cases e : l = dnx (H 0 8)
        · by_cases p : m = dnx (H 0 8)
          · rw [e, p]
          · rw [if_pos e, if_neg p] at w
            exact (d6 m k m0 m1 k0 (by omega) w.symm).elim
        · by_cases p : m = dnx (H 0 8)
          · rw [if_neg e, if_pos p] at w
            exact (d6 l k l0 l1 k0 (by omega) w).elim
          · rw [if_neg e, if_neg p] at w
            exact d7 l m l0 l1 m0 m1 w
    have cells : ∀ x, (KW x ∨ KL x) → G x = H x ∧ G (x + 1) = H (x + 1) := fun x hx => by
      have z := KZ hx
      have dc : ¬ x = 469 + 6 * dnx (H 0 8) ∧ ¬ x + 1 = 469 + 6 * dnx (H 0 8) := by
        have d := DC lx.1 lx.2
        rcases hx with hx | hx
        · exact ⟨fun w => d.2.2.2.1 (by rw [← w]; exact hx), d.2.2.2.2.2 x hx⟩
        · exact ⟨fun w => d.1 (by rw [← w]; exact hx), d.2.2.2.2.1 x hx⟩
      have n48 : 48 ≤ x := by
        rcases hx with hx | hx
        · have := KWz hx
          omega
        · have := KL_in hx
          omega
      exact ⟨G0 x (by omega) (by omega) (by omega) dc.1 (by omega) (by omega) (by omega), G0 _ (by omega) (by omega) (by omega) dc.2 (by omega) (by omega) (by omega)⟩
    have lg : ∀ l, 0 ≤ l → l < 20 → ¬ l = dnx (H 0 8) → LGc H G l := fun l l0 l1 ne => by
      have kk := ld.2.1 l l0 l1
      have c1 := cells _ (Or.inl kk.1)
      have c2 := cells _ (Or.inr kk.2)
      exact ⟨Gl l l0 l1 ne, by rw [c1.1]; exact ⟨rfl, rfl⟩, c1.2, c2.1, c2.2⟩
    refine ⟨_, G, g, Or.inl ⟨q, rfl, RC_note hR ci cp (OKR_str ok0 q) ldG (by rw [Gz 0 (by decide), na.1, x4.2]) (by rw [Gz 0 (by decide), na.2.1]) lg ?_, MCC_0 (by rw [Gz 215 (by decide)]; exact nd_z.1) (by rw [Gz 221 (by decide)]; exact nd_z.2.1), ⟨fun c hc => G0 c (by omega) (by omega) (by omega) (by omega) (by omega) (by omega) (by omega), ⟨by rw [Gz 0 (by decide)]; exact nd_0 h8 (by decide) (by decide), G0 589 (by decide) (by decide) (by decide) (by omega) (by decide) (by decide) (by decide)⟩, G0 214 (by decide) (by decide) (by decide) (by omega) (by decide) (by decide) (by decide)⟩, by rw [G0 213 (by decide) (by decide) (by decide) (by omega) (by decide) (by decide) (by decide)], by rw [Gz 372 (by decide)]; exact nd_z.2.2⟩⟩
    have cq := cells _ (Or.inr hq)
    have gk := x1.1.2.2.1 k k0 q.2
    have gg := x1.2.1 k k0 q.2
    unfold DD
    rw [Gd 0, Gd 1, Gd 2, Gd 3, Gd 5, if_neg (by decide), if_neg (by decide), if_neg (by decide), if_neg (by decide), if_pos rfl, na.2.2.1, na.2.2.2.1, na.2.2.2.2.1, na.2.2.2.2.2.1]
    have E2 : strA (S 0) k 2 = S 0 2 - 1 := if_pos rfl
    refine Or.inr (Or.inr (Or.inr (Or.inr (Or.inr (Or.inr (Or.inr (Or.inl ⟨rfl, ?_, ?_, ?_, ?_, ?_, ?_⟩)))))))
    · rw [E2]
      omega
    · rw [E2]
      omega
    · refine REq_symm (REq_AG ok0.1 (OKR_11 ok0).2 (fun j j0 j1 => ?_))
      unfold insL
      rw [E2]
      by_cases j2 : j = 2
      · rw [if_pos j2, j2]
        omega
      · rw [if_neg j2]
        by_cases p1 : j < 404 + 12 * k
        · rw [if_pos p1, strA_o j2 (by omega)]
        · rw [if_neg p1]
          by_cases p2 : j < 404 + 12 * k + 12
          · rw [if_pos p2]
          · rw [if_neg p2]
            unfold strA
            rw [if_neg (by omega), if_pos (by omega)]
            exact congrArg (S 0) (by omega)
    · unfold LNr at gk ⊢
      rw [cq.1]
      exact gk
    · rw [cq.1]
      exact gg.1
    · rw [cq.1, cq.2]
      exact gg.2
  · by_cases k0 : 0 ≤ k
    · have k1 : ¬ k ≤ H 1 4 - 1 := by omega
      have k2 : ¬ k < 0 := by omega
      have k3 : H 1 4 - 1 < k := by omega
      have h := call_runP 3 vm_X11_strike h
      have h := xw_top (hd := []) 4 xD6_ok xc_X11_strike xa_X11_strike (t := 0) rfl h
      simp (maxDischargeDepth := 12) -implicitDefEqProofs [vb_X11_strike_0, vb_X11_strike_10, xI_0, xI_1, xI_4, xI_7, xI_8, xI_38, xI_49, xI_50, xI_61, xI_62, xw_X11_strike_0, xw_X11_strike_10, zw_lit, xB_c, xB_s, xB_n, i1_c, j2_c, k1_c, jJ_e, xlg, xls, xla, xpd, ppush, zw_m1, zw_m2, zw_m3, gf_1_4, gf_2_5, gf_11_0, pf_2_197, tg_11_0, tg_1_4, tg_2_5, gv_1_4, gv_0_0, xD1, xD2, xD3, xD4, xD5, xD6, xb1_0, z2, k0, k1, k2, k3] at h
      exact ⟨_, _, h, Or.inr ⟨q, rfl, rfl⟩⟩
    · have k2 : k < 0 := by omega
      have h := call_runP 3 vm_X11_strike h
      have h := xw_top (hd := []) 4 xD6_ok xc_X11_strike xa_X11_strike (t := 0) rfl h
      simp (maxDischargeDepth := 12) -implicitDefEqProofs [vb_X11_strike_0, vb_X11_strike_10, xI_0, xI_1, xI_4, xI_7, xI_8, xI_38, xI_49, xI_50, xI_61, xI_62, xw_X11_strike_0, xw_X11_strike_10, zw_lit, xB_c, xB_s, xB_n, i1_c, j2_c, k1_c, jJ_e, xlg, xls, xla, xpd, ppush, zw_m1, zw_m2, zw_m3, gf_1_4, gf_2_5, gf_11_0, pf_2_197, tg_11_0, tg_1_4, tg_2_5, gv_1_4, gv_0_0, xD1, xD2, xD3, xD4, xD5, xD6, xb1_0, z2, k0, k2] at h
      exact ⟨_, _, h, Or.inr ⟨q, rfl, rfl⟩⟩
