/-! a line is put back -/
theorem xv_X1_putBack : zget zM 14 = some ((14, 1, false, cX1_putBack, 5, (some (.object "BaleTallies$Line"))), kd_X1_putBack) := rfl
/-- which line lies at j, one being put back at k -/
def pbI (k N j : Int) : Int := if k < j ∧ j ≤ N then j - 1 else j
set_option maxRecDepth 100000 in
theorem lp_putb (k q s N : Int) (hk : 0 ≤ k ∧ k ≤ N) (hN : N < 60) {E : xE} {res : xR} (H0 : PH) : ∀ (n : Nat) (i : Int) (H : PH), k ≤ i → i ≤ N → H 1 4 = N → (∀ c, ¬ c = 1 → ¬ c = 47 → H c = H0 c) → (∀ j, ¬ j = 4 → H 1 j = H0 1 j) → (∀ j, H 47 j = if i < j ∧ j ≤ N then H0 47 (j - 1) else H0 47 j) → RUN E res n kd_X1_putBack (zget kd_X1_putBack 27) 27 [1, k, q, s, i] [] H → ∃ H' : PH, H' 1 4 = N + 1 ∧ (∀ c, ¬ c = 1 → ¬ c = 47 → H' c = H0 c) ∧ (∀ j, ¬ j = 4 → H' 1 j = H0 1 j) ∧ (∀ j, H' 47 j = if j = k then q else H0 47 (pbI k N j)) ∧ REPR E res (some (2, s)) H' := by
  intro n
  induction n using Nat.strongRecOn with
  | _ n ih =>
    intro i H hi0 hi1 h4 hF h1 h47 h
    have z1 : zw (i - 1) = i - 1 := zw_lit (by omega) (by omega)
    have z2 : zw (i + 4294967295) = i - 1 := zw_dec (by omega) (by omega)
    have z3 : zw (N + 1) = N + 1 := zw_lit (by omega) (by omega)
    have a1 := zr47
    have a2 := zr47'
    by_cases c : k < i
    · have c' : ¬ i ≤ k := by omega
      have h := xw_top (hd := [27, 55]) 6 xD6_ok xc_X1_putBack xa_X1_putBack (t := 27) rfl h
      simp (maxDischargeDepth := 12) -implicitDefEqProofs [vb_X1_putBack_0, vb_X1_putBack_11, vb_X1_putBack_27, vb_X1_putBack_55, xI_0, xI_1, xI_3, xI_4, xI_6, xI_7, xI_8, xI_14, xI_15, xI_33, xI_36, xI_45, xI_48, xI_49, xI_50, xI_53, xI_59, xI_63, xw_X1_putBack_0, xw_X1_putBack_11, xw_X1_putBack_27, xw_X1_putBack_55, zw_lit, xB_c, xB_s, xB_n, i1_c, j2_c, k1_c, jJ_e, xlg, xls, xla, xpd, ppush, zw_m1, zw_m2, zw_m3, gf_1_3, gf_1_4, pf_1_4, tg_1_3, tg_1_4, gv_1_3, gv_1_4, xD1, xD2, xD3, xD4, xD5, xD6, xb1_0, h4, c, c', z1, z2, gv47, a1, a2] at h
      obtain ⟨m, hm, h⟩ := h
      refine ih m hm (i - 1) _ (by omega) (by omega) (by rw [xp_ne (by decide)]; exact h4) (fun d d1 d2 => by rw [xp_ne d2]; exact hF d d1 d2) (fun j hj => by rw [xp_ne (by decide)]; exact h1 j hj) (fun j => ?_) h
      rw [xp_at]
      by_cases e : j = i
      · rw [if_pos e, h47 (i - 1), if_neg (by omega), if_pos (by omega), e]
      · rw [if_neg e, h47 j]
        by_cases p : i < j ∧ j ≤ N
        · rw [if_pos p, if_pos (by omega)]
        · rw [if_neg p, if_neg (by omega)]
    · have c' : i ≤ k := by omega
      have ei : i = k := by omega
      have h := xw_top (hd := [27, 55]) 6 xD6_ok xc_X1_putBack xa_X1_putBack (t := 27) rfl h
      simp (maxDischargeDepth := 12) -implicitDefEqProofs [vb_X1_putBack_0, vb_X1_putBack_11, vb_X1_putBack_27, vb_X1_putBack_55, xI_0, xI_1, xI_3, xI_4, xI_6, xI_7, xI_8, xI_14, xI_15, xI_33, xI_36, xI_45, xI_48, xI_49, xI_50, xI_53, xI_59, xI_63, xw_X1_putBack_0, xw_X1_putBack_11, xw_X1_putBack_27, xw_X1_putBack_55, zw_lit, xB_c, xB_s, xB_n, i1_c, j2_c, k1_c, jJ_e, xlg, xls, xla, xpd, ppush, zw_m1, zw_m2, zw_m3, gf_1_3, gf_1_4, pf_1_4, tg_1_3, tg_1_4, gv_1_3, gv_1_4, xD1, xD2, xD3, xD4, xD5, xD6, xb1_0, h4, c, c'] at h
      obtain ⟨m, hm, h⟩ := h
      have h := xw_top (hd := [27, 55]) 6 xD6_ok xc_X1_putBack xa_X1_putBack (t := 55) rfl h
      simp (maxDischargeDepth := 12) -implicitDefEqProofs [vb_X1_putBack_0, vb_X1_putBack_11, vb_X1_putBack_27, vb_X1_putBack_55, xI_0, xI_1, xI_3, xI_4, xI_6, xI_7, xI_8, xI_14, xI_15, xI_33, xI_36, xI_45, xI_48, xI_49, xI_50, xI_53, xI_59, xI_63, xw_X1_putBack_0, xw_X1_putBack_11, xw_X1_putBack_27, xw_X1_putBack_55, zw_lit, xB_c, xB_s, xB_n, i1_c, j2_c, k1_c, jJ_e, xlg, xls, xla, xpd, ppush, zw_m1, zw_m2, zw_m3, gf_1_3, gf_1_4, pf_1_4, tg_1_3, tg_1_4, gv_1_3, gv_1_4, xD1, xD2, xD3, xD4, xD5, xD6, xb1_0, h4, a1, a2, xp_ne, z3] at h
      refine ⟨_, by rw [xp_at, if_pos rfl], fun d d1 d2 => by rw [xp_ne d1, xp_ne d2]; exact hF d d1 d2, fun j hj => by rw [xp_at, if_neg hj, xp_ne (by decide)]; exact h1 j hj, fun j => ?_, h⟩
      rw [xp_ne (by decide), xp_at, h47]
      by_cases e : j = k
      · rw [if_pos e, if_pos e]
      · rw [if_neg e, if_neg e]
        unfold pbI
        rw [ei]
        by_cases p : k < j ∧ j ≤ N
        · rw [if_pos p, if_pos p]
        · rw [if_neg p, if_neg p]
set_option maxRecDepth 100000 in
theorem sp_X1_putBack (k q N : Int) (H : PH) (hk : 0 ≤ k ∧ k ≤ N) (hN : N < 60) (h4 : H 1 4 = N) : SPEC 14 [(2, 1), (0, k), (2, q)] H (fun r H' => r = some (2, H 47 N) ∧ H' 1 4 = N + 1 ∧ (∀ c, ¬ c = 1 → ¬ c = 47 → H' c = H c) ∧ (∀ j, ¬ j = 4 → H' 1 j = H 1 j) ∧ ∀ j, H' 47 j = if j = k then q else H 47 (pbI k N j)) := by
  intro E n res h
  have c1 : ¬ 60 ≤ N := by omega
  have h := call_runP 5 xv_X1_putBack h
  have h := xw_top (hd := [27, 55]) 6 xD6_ok xc_X1_putBack xa_X1_putBack (t := 0) rfl h
  simp (maxDischargeDepth := 12) -implicitDefEqProofs [vb_X1_putBack_0, vb_X1_putBack_11, vb_X1_putBack_27, vb_X1_putBack_55, xI_0, xI_1, xI_3, xI_4, xI_6, xI_7, xI_8, xI_14, xI_15, xI_33, xI_36, xI_45, xI_48, xI_49, xI_50, xI_53, xI_59, xI_63, xw_X1_putBack_0, xw_X1_putBack_11, xw_X1_putBack_27, xw_X1_putBack_55, zw_lit, xB_c, xB_s, xB_n, i1_c, j2_c, k1_c, jJ_e, xlg, xls, xla, xpd, ppush, zw_m1, zw_m2, zw_m3, gf_1_3, gf_1_4, pf_1_4, tg_1_3, tg_1_4, gv_1_3, gv_1_4, xD1, xD2, xD3, xD4, xD5, xD6, xb1_0, h4, hN, c1, gv47] at h
  obtain ⟨m, hm, h⟩ := h
  obtain ⟨H', g1, g2, g3, g4, g5⟩ := lp_putb k q (H 47 N) N hk hN H m N _ hk.2 (Int.le_refl _) h4 (fun c _ _ => rfl) (fun j _ => rfl) (fun j => by rw [if_neg (by omega)]) h
  exact ⟨_, H', g5, rfl, g1, g2, g3, g4⟩
theorem pbI_in {k N j : Int} (hk : 0 ≤ k ∧ k ≤ N) (hN : N < 60) (j0 : 0 ≤ j) (j1 : j < 60) (jn : ¬ j = k) : 0 ≤ pbI k N j ∧ pbI k N j < 60 ∧ ¬ pbI k N j = N := by
  unfold pbI
  split <;> omega
theorem pbI_inj {k N i j : Int} (hk : 0 ≤ k ∧ k ≤ N) (i1 : ¬ i = k) (jn : ¬ j = k) (h : pbI k N i = pbI k N j) : i = j := by
  unfold pbI at h
  repeat' split at h
  all_goals omega
theorem insL_o {A C : Int → Int} {k j : Int} (h2 : ¬ j = 2) (h : j < 404 + 12 * k) : insL A C k j = A j := by
  unfold insL
  rw [if_neg h2, if_pos h]
theorem insL_k {A C : Int → Int} {k i : Int} (hk : 0 ≤ k) (i0 : 0 ≤ i) (i1 : i < 12) : insL A C k (404 + 12 * k + i) = C (404 + 12 * k + i) := by
  unfold insL
  rw [if_neg (by omega), if_neg (by omega), if_pos (by omega)]
theorem insL_l {A C : Int → Int} {k m i N : Int} (hk : 0 ≤ k) (m0 : 0 ≤ m) (m1 : m ≤ N) (ne : ¬ m = k) (i0 : 0 ≤ i) (i1 : i < 12) : insL A C k (404 + 12 * m + i) = A (404 + 12 * pbI k N m + i) := by
  unfold insL pbI
  rw [if_neg (by omega)]
  by_cases c : k < m
  · rw [if_neg (by omega), if_neg (by omega), if_pos (by omega)]
    exact congrArg A (by omega)
  · rw [if_pos (by omega), if_neg (by omega)]
set_option maxRecDepth 100000 in
theorem UP_str {H G : PH} {A C : Int → Int} {l k q : Int} (hl : 0 ≤ l ∧ l < 20) (eq : q = H (469 + 6 * l) 5) (hB : MB A) (h11 : A 11 ≤ 60) (hC : MB C) (ld : LDA H) (cp : CPr H A) (ci : CI H A) (hk : 0 ≤ k ∧ k ≤ A 2) (h60 : A 2 < 60) (rq : REq (insL A C k) C) (ln : LNr q H C (404 + 12 * k)) (gq : (0 ≤ H q 4 ∧ H q 4 ≤ C 0) ∧ ∀ b, 0 ≤ b → b < H q 4 → b < C 0 → H (q + 1) b = lapA C k b) (g1 : ∀ i, ¬ i = 4 → G 1 i = H 1 i) (g4 : G 1 4 = A 2 + 1) (g47 : ∀ j, G 47 j = if j = k then q else H 47 (pbI k (A 2) j)) (gc : ∀ c, ¬ c = 1 → ¬ c = 47 → ¬ c = 469 + 6 * l → G c = H c) (gd : ∀ i, G (469 + 6 * l) i = if i = 5 then H 47 (A 2) else H (469 + 6 * l) i) : UP H G l C := by
  obtain ⟨⟨⟨s0, s1, s2, s3, s4, s5, s6, s7, s8, s9⟩, b1, b2, b3, b4⟩, gcr, ldi⟩ := id ci
  have a0 := hB.1
  have a1 := hB.2.1
  have a2 := hB.2.2.1
  have dc := DC hl.1 hl.2
  have dl := ld.2.1 l hl.1 hl.2
  have qk : KL q := by rw [eq]; exact dl.2
  have qn : ∀ j, 0 ≤ j → j < 60 → ¬ q = H 47 j := fun j j0 j1 => by rw [eq]; exact ld.2.2.2.2.2.1 l j hl.1 hl.2 j0 j1
  have E0 : ∀ j, ¬ j = 2 → j < 404 → insL A C k j = A j := fun j j2 j4 => insL_o j2 (by omega)
  have E2 : insL A C k 2 = A 2 + 1 := if_pos rfl
  have gk : ∀ x, KW x ∨ KL x → G x = H x ∧ G (x + 1) = H (x + 1) := fun x hx => by
    rcases hx with hx | hx
    · have z := KWz hx
      exact ⟨gc x (by omega) (by omega) (fun w => dc.2.2.2.1 (by rw [← w]; exact hx)), gc _ (by omega) (by omega) (dc.2.2.2.2.2 x hx)⟩
    · have z := KL_in hx
      exact ⟨gc x (by omega) (by omega) (fun w => dc.1 (by rw [← w]; exact hx)), gc _ (by omega) (by omega) (dc.2.2.2.2.1 x hx)⟩
  have hA : ∀ x y, chA A x y = chA (insL A C k) x y := fun x y => chA_cp (E0 1 (by decide) (by decide)).symm (fun i i0 i1 => ⟨(E0 _ (by omega) (by omega)).symm, (E0 _ (by omega) (by omega)).symm⟩) x y
  have pb : ∀ m, 0 ≤ m → m ≤ A 2 → ¬ m = k → 0 ≤ pbI k (A 2) m ∧ pbI k (A 2) m < A 2 := fun m m0 m1 ne => by
    unfold pbI
    split <;> omega
  have eb : ∀ x, 0 ≤ x → x < A 0 → EB (insL A C k) C (92 + 26 * x) := fun x x0 x1 => rq.2.2.1 x x0 (by rw [E0 0 (by decide) (by decide)]; exact x1)
  have el : EL (insL A C k) C (404 + 12 * k) := rq.2.2.2.1 k hk.1 (by rw [E2]; omega)
  have e0 : insL A C k 0 = C 0 := rq.1 0 (by decide) (by decide)
  have c0 : A 0 = C 0 := by rw [← E0 0 (by decide) (by decide)]; exact e0
  have ciG : CI G (insL A C k) := by
    refine ⟨⟨?_, fun x x0 x1 => ?_, fun m m0 m1 => ?_, fun x y x0 x1 y0 y1 => ?_, ?_⟩, fun m m0 m1 => ?_, fun m m0 m1 => ?_, fun i j i0 i1 j0 j1 w => ?_⟩
    · rw [E0 0 (by decide) (by decide), E0 1 (by decide) (by decide), E2, E0 3 (by decide) (by decide), E0 4 (by decide) (by decide), E0 5 (by decide) (by decide), E0 6 (by decide) (by decide), E0 7 (by decide) (by decide), E0 8 (by decide) (by decide), E0 9 (by decide) (by decide), gc 2 (by decide) (by decide) (by omega), g4, g1 2 (by decide), g1 7 (by decide), g1 8 (by decide), g1 9 (by decide), g1 11 (by decide), g1 12 (by decide), g1 10 (by decide), g1 13 (by decide)]
      exact ⟨s0, s1, rfl, s3, s4, s5, s6, s7, s8, s9⟩
    · rw [E0 0 (by decide) (by decide)] at x1
      have g := b1 x x0 x1
      have v6 := hB.2.2.2.2.1 x x0 (by omega)
      have v8 := hB.2.2.2.1 x x0 (by omega)
      have e6 := g.2.2.2.2.2.1
      exact BRr_same g (gc _ (by omega) (by omega) (by omega)) (gc _ (by omega) (by omega) (by omega)) (gc _ (by omega) (by omega) (by omega)) (fun j j0 j1 => E0 j (by omega) (by omega)) v8.2 (by omega)
    · rw [E2] at m1
      rw [g47]
      by_cases e : m = k
      · rw [if_pos e, e]
        have g := LNr_EQ ln (EL_symm el)
        unfold LNr at g ⊢
        rw [(gk q (Or.inr qk)).1]
        exact g
      · rw [if_neg e]
        have sm := pb m m0 (by omega) e
        have g := b2 (pbI k (A 2) m) sm.1 sm.2
        have kq := ldi.1 (pbI k (A 2) m) sm.1 (by omega)
        have v8 := hB.2.2.2.2.2.1 (pbI k (A 2) m) sm.1 (by omega)
        have L := fun i i0 i1 => insL_l (A := A) (C := C) (k := k) (m := m) (i := i) (N := A 2) hk.1 m0 (by omega) e i0 i1
        have L0 := L 0 (by decide) (by decide)
        rw [Int.add_zero, Int.add_zero] at L0
        unfold LNr at g ⊢
        rw [(gk _ (Or.inr kq)).1, L0, L 1 (by decide) (by decide), L 2 (by decide) (by decide), L 3 (by decide) (by decide)]
        refine ⟨g.1, g.2.1, g.2.2.1, VM_congr g.2.2.2 rfl (fun i i0 i1 => ?_)⟩
        have := L (4 + i) (by omega) (by omega)
        rw [← Int.add_assoc, ← Int.add_assoc] at this
        exact this.symm
    · rw [gc _ (by omega) (by omega) (by omega), b3 x y x0 x1 y0 y1]
      exact hA _ _
    · have kw := b4.1
      obtain ⟨w0, w1, w2, w3⟩ := b4
      unfold LWr
      rw [g1 5 (by decide), (gk _ (Or.inl kw)).1, (gk _ (Or.inl kw)).2, E0 10 (by decide) (by decide), E0 11 (by decide) (by decide)]
      exact ⟨w0, w1, w2, fun j j0 j1 => by rw [E0 (12 + j) (by omega) (by omega)]; exact w3 j j0 j1⟩
    · rw [E2] at m1
      rw [g47, E0 0 (by decide) (by decide)]
      by_cases e : m = k
      · rw [if_pos e, e, (gk q (Or.inr qk)).1, (gk q (Or.inr qk)).2]
        refine ⟨by omega, fun x x0 x1 x2 => ?_⟩
        rw [gq.2 x x0 x1 (by omega)]
        have vb := hC.2.2.2.1 x x0 (by omega)
        exact lapA_EQ (fun x y => (chA_EQ rq x y).symm) vb.1 (EB_symm (eb x x0 x2)) (EL_symm el)
      · rw [if_neg e]
        have sm := pb m m0 (by omega) e
        have g := gcr (pbI k (A 2) m) sm.1 sm.2
        have kq := ldi.1 (pbI k (A 2) m) sm.1 (by omega)
        have v8 := hB.2.2.2.2.2.1 (pbI k (A 2) m) sm.1 (by omega)
        have L := fun i i0 i1 => insL_l (A := A) (C := C) (k := k) (m := m) (i := i) (N := A 2) hk.1 m0 (by omega) e i0 i1
        rw [(gk _ (Or.inr kq)).1, (gk _ (Or.inr kq)).2]
        refine ⟨g.1, fun x x0 x1 x2 => ?_⟩
        rw [g.2 x x0 x1 x2]
        have vb := hB.2.2.2.1 x x0 (by omega)
        have vr := hB.2.2.2.2.1 x x0 (by omega)
        unfold lapA
        refine apB_EQ hA vb.1 (EB_out (fun i i0 i1 => (E0 _ (by omega) (by omega)).symm) vb.2 vr.2) (L 3 (by decide) (by decide)).symm (fun i i0 i1 => ?_)
        have := L (4 + i) (by omega) (by omega)
        rw [← Int.add_assoc, ← Int.add_assoc] at this
        exact this.symm
    · rw [g47]
      split
      · exact qk
      · rename_i ne
        have := pbI_in hk h60 m0 m1 ne
        exact ldi.1 _ this.1 this.2.1
    · rw [g47, g47] at w
      by_cases p : i = k
      · by_cases r : j = k
        · omega
        · rw [if_pos p, if_neg r] at w
          have := pbI_in hk h60 j0 j1 r
          exact (qn _ this.1 this.2.1 w).elim
      · have ii := pbI_in hk h60 i0 i1 p
        by_cases r : j = k
        · rw [if_neg p, if_pos r] at w
          exact (qn _ ii.1 ii.2.1 w.symm).elim
        · rw [if_neg p, if_neg r] at w
          have jj := pbI_in hk h60 j0 j1 r
          exact pbI_inj hk p r (ldi.2 _ _ ii.1 ii.2.1 jj.1 jj.2.1 w)
  have Gl : ∀ m, 0 ≤ m → m < 20 → ¬ m = l → G (469 + 6 * m) = H (469 + 6 * m) := fun m m0 m1 ne => gc _ (by omega) (by omega) (by omega)
  have G4 : ∀ m, 0 ≤ m → m < 20 → G (469 + 6 * m) 4 = H (469 + 6 * m) 4 := fun m m0 m1 => by
    by_cases e : m = l
    · rw [e, gd, if_neg (by decide)]
    · rw [Gl m m0 m1 e]
  have G5 : ∀ m, 0 ≤ m → m < 20 → G (469 + 6 * m) 5 = if m = l then H 47 (A 2) else H (469 + 6 * m) 5 := fun m m0 m1 => by
    by_cases e : m = l
    · rw [e, gd, if_pos rfl, if_pos rfl]
    · rw [Gl m m0 m1 e, if_neg e]
  have ldG : LDA G := by
    obtain ⟨d1, d2, d3, d4, d5, d6, d7⟩ := ld
    refine ⟨ciG.2.2, fun m m0 m1 => ?_, by rw [g1 5 (by decide), g1 6 (by decide)]; exact d3, fun m m0 m1 => by rw [G4 m m0 m1, g1 5 (by decide), g1 6 (by decide)]; exact d4 m m0 m1, fun i j i0 i1 j0 j1 w => ?_, fun i j i0 i1 j0 j1 => ?_, fun i j i0 i1 j0 j1 w => ?_⟩
    · rw [G4 m m0 m1, G5 m m0 m1]
      refine ⟨(d2 m m0 m1).1, ?_⟩
      split
      · exact d1.1 _ a2.1 h60
      · exact (d2 m m0 m1).2
    · rw [G4 i i0 i1, G4 j j0 j1] at w
      exact d5 i j i0 i1 j0 j1 w
    · rw [G5 i i0 i1, g47]
      by_cases e : i = l
      · rw [if_pos e]
        by_cases p : j = k
        · rw [if_pos p]
          exact fun w => qn _ a2.1 h60 w.symm
        · rw [if_neg p]
          have := pbI_in hk h60 j0 j1 p
          exact fun w => this.2.2 (d1.2 _ _ a2.1 h60 this.1 this.2.1 w).symm
      · rw [if_neg e]
        by_cases p : j = k
        · rw [if_pos p, eq]
          exact fun w => e (d7 i l i0 i1 hl.1 hl.2 w)
        · rw [if_neg p]
          have := pbI_in hk h60 j0 j1 p
          exact d6 i _ i0 i1 this.1 this.2.1
    · rw [G5 i i0 i1, G5 j j0 j1] at w
      by_cases e : i = l
      · by_cases p : j = l
        · rw [e, p]
        · rw [if_pos e, if_neg p] at w
          exact (d6 j _ j0 j1 a2.1 h60 w.symm).elim
      · by_cases p : j = l
        · rw [if_neg e, if_pos p] at w
          exact (d6 i _ i0 i1 a2.1 h60 w).elim
        · rw [if_neg e, if_neg p] at w
          exact d7 i j i0 i1 j0 j1 w
  refine ⟨CI_EQ ciG rq, CPr_EQ (CPr_row hB (CPr_fr (gc 42 (by decide) (by decide) (by omega)) (gc 43 (by decide) (by decide) (by omega)) cp) (fun i hi => E0 i (by omega) (by omega))) rq, ldG, gc 0 (by decide) (by decide) (by omega), gc 213 (by decide) (by decide) (by omega), ⟨fun c hc => gc c (by omega) (by omega) (by omega), ⟨by rw [gc 0 (by decide) (by decide) (by omega)], gc 589 (by decide) (by decide) (by omega)⟩, gc 214 (by decide) (by decide) (by omega)⟩, fun m m0 m1 ne => ?_⟩
  have kk := ld.2.1 m m0 m1
  have c1 := gk _ (Or.inl kk.1)
  have c2 := gk _ (Or.inr kk.2)
  exact ⟨Gl m m0 m1 ne, by rw [c1.1]; exact ⟨rfl, rfl⟩, c1.2, c2.1, c2.2⟩
