/-! back, as the class does it -/
theorem CI_fr {H G : PH} {A : Int → Int} (hB : MB A) (ci : CI H A) (gs : ∀ c, c = 1 ∨ c = 2 ∨ (5 ≤ c ∧ c ≤ 41) ∨ c = 47 ∨ (57 ≤ c ∧ c ≤ 92) → G c = H c) (gq : ∀ q, KL q → G q = H q ∧ G (q + 1) = H (q + 1)) (gw : ∀ w, KW w → (G w 2 = H w 2 ∧ G w 3 = H w 3) ∧ G (w + 1) = H (w + 1)) : CI G A := by
  obtain ⟨⟨a, b, c, d, e⟩, gcr, ld⟩ := ci
  have a0 := hB.1
  have a2 := hB.2.2.1
  have e1 := gs 1 (by decide)
  have e47 := gs 47 (by decide)
  refine ⟨⟨by rw [e1, gs 2 (by decide)]; exact a, fun x x0 x1 => ?_, fun k k0 k1 => ?_, fun x y x0 x1 y0 y1 => by rw [gs _ (by omega)]; exact d x y x0 x1 y0 y1, ?_⟩, fun k k0 k1 => ?_, by unfold LDi; rw [e47]; exact ld⟩
  · have g := b x x0 x1
    unfold BRr at g ⊢
    rw [gs (57 + 3 * x) (by omega), gs (57 + 3 * x + 1) (by omega), gs (57 + 3 * x + 2) (by omega)]
    exact g
  · have g := c k k0 k1
    unfold LNr at g ⊢
    rw [e47, (gq _ (ld.1 k k0 (by omega))).1]
    exact g
  · have w := gw _ e.1
    unfold LWr at e ⊢
    rw [e1, w.1.1, w.1.2, w.2]
    exact e
  · have g := gcr k k0 k1
    have q := gq _ (ld.1 k k0 (by omega))
    rw [e47, q.1, q.2]
    exact g
def prv (l : Int) : Int := if l = 0 then 19 else l - 1
theorem rpl_prv {l e : Int} (hl : 0 ≤ l ∧ l ≤ 19) (he : 0 ≤ e ∧ e < 19) : rpl (prv l) e = rpl l (e + 1) := by
  unfold rpl prv
  repeat' split
  all_goals omega
theorem rpl_nl {l e : Int} (hl : 0 ≤ l ∧ l ≤ 19) (he : 0 ≤ e ∧ e < 19) : ¬ rpl l (e + 1) = l := by
  unfold rpl
  split
  all_goals omega
/-- the rows but the newest -/
def tlS1 (S : Int → Int → Int) : Int → Int → Int := fun e => S (e + 1)
/-- behind back -/
def CBk (H H' : PH) (S : Int → Int → Int) (n : Int) : Prop := RC H' (tlS1 S) (n - 1) ∧ MCC (S 1) H' ∧ OF H H' ∧ H' 213 1 = H 213 1 ∧ H' 372 2 = 0
set_option maxRecDepth 100000 in
theorem sp_c_back (S : Int → Int → Int) (n : Int) (H : PH) (hR : RC H S n) (hM : MCC (S 0) H) : SPEC 142 [(2, 0)] H (fun r H' => (1 ≤ n ∧ r = some (0, n - 1) ∧ CBk H H' S n) ∨ (n = 0 ∧ r = some (0, -1) ∧ H' = H)) := by
  intro E n' res h
  obtain ⟨x1, x2, ld, x4, h8, x6, x7⟩ := id hR
  have ok0 := RC_sz hR
  by_cases q : n = 0
  · have e7 : H 0 7 = 0 := by omega
    have h := call_runP 1 vm_X11_back h
    have h := xw_top (hd := []) 6 xD6_ok xc_X11_back xa_X11_back (t := 0) rfl h
    simp (maxDischargeDepth := 12) -implicitDefEqProofs [vb_X11_back_0, vb_X11_back_9, vb_X11_back_38, vb_X11_back_44, xI_0, xI_7, xI_8, xI_15, xI_33, xI_36, xI_38, xI_49, xI_50, xI_53, xI_61, xI_62, xw_X11_back_0, xw_X11_back_9, xw_X11_back_38, xw_X11_back_44, zw_lit, xB_c, xB_s, xB_n, i1_c, j2_c, k1_c, jJ_e, xlg, xls, xla, xpd, ppush, zw_m1, zw_m2, zw_m3, gf_11_0, gf_11_6, gf_11_7, gf_11_8, pf_11_7, pf_11_8, tg_11_0, tg_11_6, tg_11_7, tg_11_8, gv_0_0, gv_0_6, gv_0_7, gv_0_8, xD1, xD2, xD3, xD4, xD5, xD6, xb1_0, e7] at h
    exact ⟨_, _, h, Or.inr ⟨q, rfl, rfl⟩⟩
  · have e7 : ¬ H 0 7 = 0 := by omega
    have g468 : gv H 468 (H 0 8) = 469 + 6 * H 0 8 := gv468 h8.1 (by omega)
    have ok1 := x6 1 (by decide) (by omega)
    have d0 := x7 0 (by decide) (by omega)
    rw [rpl_0 h8, Int.zero_add] at d0
    have h := call_runP 1 vm_X11_back h
    have h := xw_top (hd := []) 6 xD6_ok xc_X11_back xa_X11_back (t := 0) rfl h
    simp (maxDischargeDepth := 12) -implicitDefEqProofs [vb_X11_back_0, vb_X11_back_9, vb_X11_back_38, vb_X11_back_44, xI_0, xI_7, xI_8, xI_15, xI_33, xI_36, xI_38, xI_49, xI_50, xI_53, xI_61, xI_62, xw_X11_back_0, xw_X11_back_9, xw_X11_back_38, xw_X11_back_44, zw_lit, xB_c, xB_s, xB_n, i1_c, j2_c, k1_c, jJ_e, xlg, xls, xla, xpd, ppush, zw_m1, zw_m2, zw_m3, gf_11_0, gf_11_6, gf_11_7, gf_11_8, pf_11_7, pf_11_8, tg_11_0, tg_11_6, tg_11_7, tg_11_8, gv_0_0, gv_0_6, gv_0_7, gv_0_8, xD1, xD2, xD3, xD4, xD5, xD6, xb1_0, e7, g468] at h
    obtain ⟨r, H1, ⟨rfl, u1, u2, u3, u4, u5, u6, u7⟩, g⟩ := xc_use h (sp_X2_undo (H 0 8) (S 0) (S 1) H (by omega) ok0 ok1 ld x2 x1 d0)
    have z7 : zw (H 0 7 - 1) = n - 1 := by rw [x4.2]; exact zw_lit (by omega) (by omega)
    have fin : ∀ G : PH, G = pup (pup (pup (pup (pup H1 0 8 (prv (H 0 8))) 0 7 (n - 1)) 215 1 0) 221 2 0) 372 2 0 → CBk H G S n := by
      intro G hG
      have Gc : ∀ c, ¬ c = 0 → ¬ c = 215 → ¬ c = 221 → ¬ c = 372 → G c = H1 c := fun c c0 c1 c2 c3 => by rw [hG, xp_ne c3, xp_ne c2, xp_ne c1, xp_ne c0, xp_ne c0]
      have G7 : G 0 7 = n - 1 := by rw [hG, xp_ne (by decide), xp_ne (by decide), xp_ne (by decide), xp_at, if_pos rfl]
      have G8 : G 0 8 = prv (H 0 8) := by rw [hG, xp_ne (by decide), xp_ne (by decide), xp_ne (by decide), xp_at, if_neg (by decide), xp_at, if_pos rfl]
      have G10 : G 0 10 = H 0 10 := by rw [hG, xp_ne (by decide), xp_ne (by decide), xp_ne (by decide), xp_at, if_neg (by decide), xp_at, if_neg (by decide), u4]
      have Gk : ∀ x, KW x ∨ KL x → G x = H1 x ∧ G (x + 1) = H1 (x + 1) := fun x hx => by
        have z := KZ hx
        have z2 : 48 ≤ x := by
          rcases hx with hx | hx
          · have := KWz hx
            omega
          · have := KL_in hx
            omega
        exact ⟨Gc x (by omega) (by omega) (by omega) (by omega), Gc _ (by omega) (by omega) (by omega) (by omega)⟩
      have Gd : ∀ m, 0 ≤ m → m < 20 → G (469 + 6 * m) = H1 (469 + 6 * m) := fun m m0 m1 => Gc _ (by omega) (by omega) (by omega) (by omega)
      have ci : CI G (S 1) := CI_fr ok1.1 u1 (fun c hc => Gc c (by omega) (by omega) (by omega) (by omega)) (fun q hq => Gk q (Or.inr hq)) (fun w hw => by rw [(Gk w (Or.inl hw)).1]; exact ⟨⟨rfl, rfl⟩, (Gk w (Or.inl hw)).2⟩)
      have e1 : G 1 = H1 1 := Gc 1 (by decide) (by decide) (by decide) (by decide)
      have e47 : G 47 = H1 47 := Gc 47 (by decide) (by decide) (by decide) (by decide)
      have lp : 0 ≤ prv (H 0 8) ∧ prv (H 0 8) ≤ 19 := by
        unfold prv
        split <;> omega
      refine ⟨⟨ci, CPr_fr (Gc 42 (by decide) (by decide) (by decide) (by decide)) (Gc 43 (by decide) (by decide) (by decide) (by decide)) u2, LDA_fr e47 (by rw [e1]; exact ⟨rfl, rfl⟩) u3 (fun m m0 m1 => by rw [Gd m m0 m1]; exact ⟨rfl, rfl⟩), ⟨by omega, G7⟩, by rw [G8]; exact lp, fun e e0 e1 => x6 (e + 1) (by omega) (by omega), fun e e0 e1 => ?_⟩, MCC_0 (by rw [hG, xp_ne (by decide), xp_ne (by decide), xp_at, if_pos rfl]) (by rw [hG, xp_ne (by decide), xp_at, if_pos rfl]), ⟨fun c hc => (Gc c (by omega) (by omega) (by omega) (by omega)).trans (u6.1 c hc), ⟨G10, (Gc 589 (by decide) (by decide) (by decide) (by decide)).trans u6.2.1.2⟩, (Gc 214 (by decide) (by decide) (by decide) (by decide)).trans u6.2.2⟩, by rw [Gc 213 (by decide) (by decide) (by decide) (by decide), u5], by rw [hG, xp_at, if_pos rfl]⟩
      rw [G8, rpl_prv h8 (by omega)]
      have ri := rpl_in h8 (e := e + 1) (by omega)
      have lg := u7 (rpl (H 0 8) (e + 1)) ri.1 ri.2 (rpl_nl h8 (by omega))
      have kk := u3.2.1 (rpl (H 0 8) (e + 1)) ri.1 ri.2
      have lg2 : LGc H1 G (rpl (H 0 8) (e + 1)) := ⟨Gd _ ri.1 ri.2, by rw [(Gk _ (Or.inl kk.1)).1]; exact ⟨rfl, rfl⟩, (Gk _ (Or.inl kk.1)).2, (Gk _ (Or.inr kk.2)).1, (Gk _ (Or.inr kk.2)).2⟩
      exact DD_fr (LGc_trans lg lg2) (x7 (e + 1) (by omega) (by omega))
    by_cases c : H 0 8 = 0
    · have p : prv (H 0 8) = 19 := if_pos c
      simp (maxDischargeDepth := 12) -implicitDefEqProofs [vb_X11_back_0, vb_X11_back_9, vb_X11_back_38, vb_X11_back_44, xI_0, xI_7, xI_8, xI_15, xI_33, xI_36, xI_38, xI_49, xI_50, xI_53, xI_61, xI_62, xw_X11_back_0, xw_X11_back_9, xw_X11_back_38, xw_X11_back_44, zw_lit, xB_c, xB_s, xB_n, i1_c, j2_c, k1_c, jJ_e, xlg, xls, xla, xpd, ppush, zw_m1, zw_m2, zw_m3, gf_11_0, gf_11_6, gf_11_7, gf_11_8, pf_11_7, pf_11_8, tg_11_0, tg_11_6, tg_11_7, tg_11_8, gv_0_0, gv_0_6, gv_0_7, gv_0_8, xD1, xD2, xD3, xD4, xD5, xD6, xb1_0, u4, c, xp_at, z7] at g
      obtain ⟨r, H2, ⟨rfl, rfl⟩, g⟩ := xc_use g (sp_X11_forgetAnswers _)
      exact ⟨_, _, g, Or.inl ⟨by omega, rfl, fin _ (by rw [p])⟩⟩
    · have p : prv (H 0 8) = H 0 8 - 1 := if_neg c
      have z8 : zw (H 0 8 - 1) = H 0 8 - 1 := zw_lit (by omega) (by omega)
      simp (maxDischargeDepth := 12) -implicitDefEqProofs [vb_X11_back_0, vb_X11_back_9, vb_X11_back_38, vb_X11_back_44, xI_0, xI_7, xI_8, xI_15, xI_33, xI_36, xI_38, xI_49, xI_50, xI_53, xI_61, xI_62, xw_X11_back_0, xw_X11_back_9, xw_X11_back_38, xw_X11_back_44, zw_lit, xB_c, xB_s, xB_n, i1_c, j2_c, k1_c, jJ_e, xlg, xls, xla, xpd, ppush, zw_m1, zw_m2, zw_m3, gf_11_0, gf_11_6, gf_11_7, gf_11_8, pf_11_7, pf_11_8, tg_11_0, tg_11_6, tg_11_7, tg_11_8, gv_0_0, gv_0_6, gv_0_7, gv_0_8, xD1, xD2, xD3, xD4, xD5, xD6, xb1_0, u4, c, z8, xp_at, z7] at g
      obtain ⟨r, H2, ⟨rfl, rfl⟩, g⟩ := xc_use g (sp_X11_forgetAnswers _)
      exact ⟨_, _, g, Or.inl ⟨by omega, rfl, fin _ (by rw [p])⟩⟩
