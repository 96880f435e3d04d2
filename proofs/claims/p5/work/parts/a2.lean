/-! a line is struck -/
theorem xv_X1_takeOut : zget zM 13 = some ((13, 1, false, cX1_takeOut, 5, (some (.object "BaleTallies$Line"))), kd_X1_takeOut) := rfl
theorem zr47 : zrtL 47 = [] := by decide +kernel
theorem zr47' : zrtL (47 : Int).toNat = [] := by decide +kernel
/-- where line j lies, one being struck -/
def stI (k N j : Int) : Int := if k ≤ j ∧ j < N - 1 then j + 1 else j
/-- the row without a line -/
def strA (A : Int → Int) (k : Int) : Int → Int := fun j => if j = 2 then A 2 - 1 else if 404 + 12 * k ≤ j ∧ j < 1112 then A (j + 12) else A j
set_option maxRecDepth 100000 in
theorem lp_tout (k o q N : Int) (hk : 0 ≤ k ∧ k < N) (hN : N ≤ 60) {E : xE} {res : xR} (H0 : PH) : ∀ (n : Nat) (i : Int) (H : PH), k ≤ i → i ≤ N - 1 → H 1 4 = N - 1 → (∀ c, ¬ c = 1 → ¬ c = 47 → H c = H0 c) → (∀ j, ¬ j = 4 → H 1 j = H0 1 j) → (∀ j, H 47 j = if k ≤ j ∧ j < i then H0 47 (j + 1) else H0 47 j) → RUN E res n kd_X1_takeOut (zget kd_X1_takeOut 20) 20 [1, k, o, q, i] [] H → ∃ H' : PH, H' 1 4 = N - 1 ∧ (∀ c, ¬ c = 1 → ¬ c = 47 → H' c = H0 c) ∧ (∀ j, ¬ j = 4 → H' 1 j = H0 1 j) ∧ (∀ j, H' 47 j = if j = N - 1 then o else H0 47 (stI k N j)) ∧ REPR E res (some (2, q)) H' := by
  intro n
  induction n using Nat.strongRecOn with
  | _ n ih =>
    intro i H hi0 hi1 h4 hF h1 h47 h
    have z1 : zw (i + 1) = i + 1 := zw_lit (by omega) (by omega)
    have a1 := zr47
    have a2 := zr47'
    by_cases c : i < N - 1
    · have c' : ¬ N - 1 ≤ i := by omega
      have h := xw_top (hd := [20, 51]) 5 xD6_ok xc_X1_takeOut xa_X1_takeOut (t := 20) rfl h
      simp (maxDischargeDepth := 12) -implicitDefEqProofs [vb_X1_takeOut_0, vb_X1_takeOut_20, vb_X1_takeOut_51, xI_0, xI_1, xI_3, xI_4, xI_6, xI_7, xI_14, xI_15, xI_33, xI_36, xI_46, xI_49, xI_50, xI_53, xI_59, xI_63, xw_X1_takeOut_0, xw_X1_takeOut_20, xw_X1_takeOut_51, zw_lit, xB_c, xB_s, xB_n, i1_c, j2_c, k1_c, jJ_e, xlg, xls, xla, xpd, ppush, zw_m1, zw_m2, zw_m3, gf_1_3, gf_1_4, pf_1_4, tg_1_3, tg_1_4, gv_1_3, gv_1_4, xD1, xD2, xD3, xD4, xD5, xD6, xb1_0, h4, c, c', z1, gv47, a1, a2] at h
      obtain ⟨m, hm, h⟩ := h
      refine ih m hm (i + 1) _ (by omega) (by omega) (by rw [xp_ne (by decide)]; exact h4) (fun d d1 d2 => by rw [xp_ne d2]; exact hF d d1 d2) (fun j hj => by rw [xp_ne (by decide)]; exact h1 j hj) (fun j => ?_) h
      rw [xp_at]
      by_cases e : j = i
      · rw [if_pos e, h47 (i + 1), if_neg (by omega), if_pos (by omega), e]
      · rw [if_neg e, h47 j]
        by_cases p : k ≤ j ∧ j < i
        · rw [if_pos p, if_pos (by omega)]
        · rw [if_neg p, if_neg (by omega)]
    · have c' : N - 1 ≤ i := by omega
      have ei : i = N - 1 := by omega
      have h := xw_top (hd := [20, 51]) 5 xD6_ok xc_X1_takeOut xa_X1_takeOut (t := 20) rfl h
      simp (maxDischargeDepth := 12) -implicitDefEqProofs [vb_X1_takeOut_0, vb_X1_takeOut_20, vb_X1_takeOut_51, xI_0, xI_1, xI_3, xI_4, xI_6, xI_7, xI_14, xI_15, xI_33, xI_36, xI_46, xI_49, xI_50, xI_53, xI_59, xI_63, xw_X1_takeOut_0, xw_X1_takeOut_20, xw_X1_takeOut_51, zw_lit, xB_c, xB_s, xB_n, i1_c, j2_c, k1_c, jJ_e, xlg, xls, xla, xpd, ppush, zw_m1, zw_m2, zw_m3, gf_1_3, gf_1_4, pf_1_4, tg_1_3, tg_1_4, gv_1_3, gv_1_4, xD1, xD2, xD3, xD4, xD5, xD6, xb1_0, h4, c, c'] at h
      obtain ⟨m, hm, h⟩ := h
      have h := xw_top (hd := [20, 51]) 5 xD6_ok xc_X1_takeOut xa_X1_takeOut (t := 51) rfl h
      simp (maxDischargeDepth := 12) -implicitDefEqProofs [vb_X1_takeOut_0, vb_X1_takeOut_20, vb_X1_takeOut_51, xI_0, xI_1, xI_3, xI_4, xI_6, xI_7, xI_14, xI_15, xI_33, xI_36, xI_46, xI_49, xI_50, xI_53, xI_59, xI_63, xw_X1_takeOut_0, xw_X1_takeOut_20, xw_X1_takeOut_51, zw_lit, xB_c, xB_s, xB_n, i1_c, j2_c, k1_c, jJ_e, xlg, xls, xla, xpd, ppush, zw_m1, zw_m2, zw_m3, gf_1_3, gf_1_4, pf_1_4, tg_1_3, tg_1_4, gv_1_3, gv_1_4, xD1, xD2, xD3, xD4, xD5, xD6, xb1_0, h4, a1, a2] at h
      refine ⟨_, by rw [xp_ne (by decide)]; exact h4, fun d d1 d2 => by rw [xp_ne d2]; exact hF d d1 d2, fun j hj => by rw [xp_ne (by decide)]; exact h1 j hj, fun j => ?_, h⟩
      rw [xp_at, h47]
      by_cases e : j = N - 1
      · rw [if_pos e, if_pos e]
      · rw [if_neg e, if_neg e]
        unfold stI
        by_cases p : k ≤ j ∧ j < i
        · rw [if_pos p, if_pos (by omega)]
        · rw [if_neg p, if_neg (by omega)]
set_option maxRecDepth 100000 in
theorem sp_X1_takeOut (k o N : Int) (H : PH) (hk : 0 ≤ k ∧ k < N) (hN : N ≤ 60) (h4 : H 1 4 = N) : SPEC 13 [(2, 1), (0, k), (2, o)] H (fun r H' => r = some (2, H 47 k) ∧ H' 1 4 = N - 1 ∧ (∀ c, ¬ c = 1 → ¬ c = 47 → H' c = H c) ∧ (∀ j, ¬ j = 4 → H' 1 j = H 1 j) ∧ ∀ j, H' 47 j = if j = N - 1 then o else H 47 (stI k N j)) := by
  intro E n res h
  have z1 : zw (N - 1) = N - 1 := zw_lit (by omega) (by omega)
  have h := call_runP 5 xv_X1_takeOut h
  have h := xw_top (hd := [20, 51]) 5 xD6_ok xc_X1_takeOut xa_X1_takeOut (t := 0) rfl h
  simp (maxDischargeDepth := 12) -implicitDefEqProofs [vb_X1_takeOut_0, vb_X1_takeOut_20, vb_X1_takeOut_51, xI_0, xI_1, xI_3, xI_4, xI_6, xI_7, xI_14, xI_15, xI_33, xI_36, xI_46, xI_49, xI_50, xI_53, xI_59, xI_63, xw_X1_takeOut_0, xw_X1_takeOut_20, xw_X1_takeOut_51, zw_lit, xB_c, xB_s, xB_n, i1_c, j2_c, k1_c, jJ_e, xlg, xls, xla, xpd, ppush, zw_m1, zw_m2, zw_m3, gf_1_3, gf_1_4, pf_1_4, tg_1_3, tg_1_4, gv_1_3, gv_1_4, xD1, xD2, xD3, xD4, xD5, xD6, xb1_0, h4, z1, gv47] at h
  obtain ⟨m, hm, h⟩ := h
  obtain ⟨H', g1, g2, g3, g4, g5⟩ := lp_tout k o (H 47 k) N hk hN H m k _ (Int.le_refl _) (by omega) (by rw [xp_at, if_pos rfl]) (fun c c1 _ => xp_ne c1) (fun j hj => by rw [xp_at, if_neg hj]) (fun j => by rw [xp_ne (by decide), if_neg (by omega)]) h
  exact ⟨_, H', g5, rfl, g1, g2, g3, g4⟩
/-- lines' cells, one being struck -/
theorem stI_in {k N j : Int} (hk : 0 ≤ k ∧ k < N) (hN : N ≤ 60) (j0 : 0 ≤ j) (j1 : j < 60) (jn : ¬ j = N - 1) : 0 ≤ stI k N j ∧ stI k N j < 60 ∧ ¬ stI k N j = k := by
  unfold stI
  split <;> omega
theorem stI_inj {k N i j : Int} (hk : 0 ≤ k ∧ k < N) (i1 : ¬ i = N - 1) (jn : ¬ j = N - 1) (h : stI k N i = stI k N j) : i = j := by
  unfold stI at h
  repeat' split at h
  all_goals omega
/-- without a line: what stays -/
theorem strA_o {A : Int → Int} {k j : Int} (h2 : ¬ j = 2) (h : j < 404 + 12 * k ∨ 1112 ≤ j) : strA A k j = A j := by
  unfold strA
  rw [if_neg h2, if_neg (by omega)]
theorem strA_l {A : Int → Int} {k m i : Int} (hk : 0 ≤ k) (m0 : 0 ≤ m) (hN : A 2 ≤ 60) (m1 : m < A 2 - 1) (i0 : 0 ≤ i) (i1 : i < 12) : strA A k (404 + 12 * m + i) = A (404 + 12 * stI k (A 2) m + i) := by
  unfold strA stI
  rw [if_neg (by omega)]
  by_cases c : k ≤ m
  · rw [if_pos (by omega), if_pos (by omega)]
    exact congrArg A (by omega)
  · rw [if_neg (by omega), if_neg (by omega)]
theorem MB_str {A : Int → Int} {k : Int} (h : MB A) (hk : 0 ≤ k ∧ k < A 2) : MB (strA A k) := by
  obtain ⟨a0, a1, a2, a3, a4, a5, a6⟩ := h
  have e2 : strA A k 2 = A 2 - 1 := if_pos rfl
  refine ⟨by rw [strA_o (by decide) (by omega)]; exact a0, by rw [strA_o (by decide) (by omega)]; exact a1, by rw [e2]; omega, fun b b0 b1 => by rw [strA_o (by omega) (by omega)]; exact a3 b b0 b1, fun b b0 b1 => by rw [strA_o (by omega) (by omega)]; exact a4 b b0 b1, fun m m0 m1 => ?_, fun i i0 i1 => ?_⟩
  · unfold strA
    rw [if_neg (by omega)]
    split
    · have := a5 (m + 1) (by omega) (by omega)
      rw [show 404 + 12 * m + 3 + 12 = 404 + 12 * (m + 1) + 3 by omega]
      exact this
    · exact a5 m m0 m1
  · unfold strA
    split
    · unfold zIn
      omega
    · split
      · exact a6 _ (by omega) (by omega)
      · exact a6 _ i0 i1
theorem OKR_str {A : Int → Int} {k : Int} (h : OKR A) (hk : 0 ≤ k ∧ k < A 2) : OKR (strA A k) := by
  obtain ⟨h1, h2, h3, h4⟩ := h
  have A2 := h1.2.2.1
  have e : ∀ j, ¬ j = 2 → j < 404 → strA A k j = A j := fun j j2 j4 => strA_o j2 (by omega)
  have e2 : strA A k 2 = A 2 - 1 := if_pos rfl
  refine ⟨MB_str h1 hk, ?_, ?_, fun b b0 b1 => ?_, fun m m0 m1 => ?_⟩
  · unfold ML
    rw [e 10 (by decide) (by decide), e 11 (by decide) (by decide)]
    have := h2.1.2.1
    exact ⟨WFL_eq h2.1 (fun k hk => (e _ (by omega) (by omega)).symm), h2.2⟩
  · unfold OKS
    rw [e 3 (by decide) (by decide), e 4 (by decide) (by decide), e 5 (by decide) (by decide), e 6 (by decide) (by decide), e 7 (by decide) (by decide), e 8 (by decide) (by decide)]
    exact h3
  · rw [e 0 (by decide) (by decide)] at b1
    have a0 := h1.1
    have r6 := h1.2.2.2.2.1 b b0 (by omega)
    rw [e _ (by omega) (by omega), e _ (by omega) (by omega), e _ (by omega) (by omega), e (92 + 26 * b + 13) (by omega) (by omega)]
    obtain ⟨x1, x2, x3, x4⟩ := h4.1 b b0 b1
    exact ⟨x1, x2, x3, fun i i0 i1 => by rw [e _ (by omega) (by omega), e _ (by omega) (by omega)]; exact x4 i i0 i1⟩
  · rw [e2] at m1
    have l0 := strA_l (A := A) hk.1 m0 A2.2 m1 (i := 0) (by decide) (by decide)
    rw [Int.add_zero, Int.add_zero] at l0
    rw [l0, strA_l hk.1 m0 A2.2 m1 (by decide) (by decide), strA_l hk.1 m0 A2.2 m1 (by decide) (by decide)]
    refine h4.2 _ ?_ ?_
    · unfold stI
      split <;> omega
    · unfold stI
      split <;> omega
set_option maxRecDepth 100000 in
/-- the class's state without a line -/
theorem CI_str {H G : PH} {A : Int → Int} {k o : Int} (hB : MB A) (h11 : A 11 ≤ 60) (ci : CI H A) (hk : 0 ≤ k ∧ k < A 2) (g1 : ∀ i, ¬ i = 4 → G 1 i = H 1 i) (g4 : G 1 4 = A 2 - 1) (g47 : ∀ j, G 47 j = if j = A 2 - 1 then o else H 47 (stI k (A 2) j)) (gc : ∀ c, ¬ c = 0 → ¬ c = 1 → ¬ c = 47 → ¬ (213 ≤ c ∧ c ≤ 467) → (∀ l, 0 ≤ l → l < 20 → ¬ c = 469 + 6 * l) → G c = H c) (ho : KL o ∧ ∀ j, 0 ≤ j → j < 60 → ¬ o = H 47 j) : CI G (strA A k) := by
  obtain ⟨⟨a, b, c, d, e⟩, gcr, ld⟩ := ci
  obtain ⟨s0, s1, s2, s3, s4, s5, s6, s7, s8, s9⟩ := a
  have a0 := hB.1
  have a1 := hB.2.1
  have a2 := hB.2.2.1
  have E0 : ∀ j, ¬ j = 2 → j < 404 → strA A k j = A j := fun j j2 j4 => strA_o j2 (by omega)
  have E2 : strA A k 2 = A 2 - 1 := if_pos rfl
  have gl : ∀ q, KL q → G q = H q ∧ G (q + 1) = H (q + 1) := fun q hq => by
    have := KL_in hq
    have := KZ (Or.inr hq)
    exact ⟨gc q (by omega) (by omega) (by omega) (by omega) (fun l l0 l1 w => (DC l0 l1).1 (by rw [← w]; exact hq)), gc (q + 1) (by omega) (by omega) (by omega) (by omega) (fun l l0 l1 w => (DC l0 l1).2.2.2.2.1 q hq w)⟩
  have gs : ∀ c, 2 ≤ c → c ≤ 46 → G c = H c := fun c c0 c1 => gc c (by omega) (by omega) (by omega) (by omega) (fun l l0 l1 => by omega)
  have gb : ∀ c, 57 ≤ c → c ≤ 92 → G c = H c := fun c c0 c1 => gc c (by omega) (by omega) (by omega) (by omega) (fun l l0 l1 => by omega)
  have hA : ∀ x y, chA A x y = chA (strA A k) x y := fun x y => chA_cp (E0 1 (by decide) (by decide)).symm (fun i i0 i1 => ⟨(E0 _ (by omega) (by omega)).symm, (E0 _ (by omega) (by omega)).symm⟩) x y
  have st : ∀ m, 0 ≤ m → m < A 2 - 1 → 0 ≤ stI k (A 2) m ∧ stI k (A 2) m < A 2 := fun m m0 m1 => by
    unfold stI
    split <;> omega
  refine ⟨⟨?_, fun x x0 x1 => ?_, fun m m0 m1 => ?_, fun x y x0 x1 y0 y1 => ?_, ?_⟩, fun m m0 m1 => ?_, fun m m0 m1 => ?_, fun i j i0 i1 j0 j1 w => ?_⟩
  · rw [E0 0 (by decide) (by decide), E0 1 (by decide) (by decide), E2, E0 3 (by decide) (by decide), E0 4 (by decide) (by decide), E0 5 (by decide) (by decide), E0 6 (by decide) (by decide), E0 7 (by decide) (by decide), E0 8 (by decide) (by decide), E0 9 (by decide) (by decide), gs 2 (by decide) (by decide), g4, g1 2 (by decide), g1 7 (by decide), g1 8 (by decide), g1 9 (by decide), g1 11 (by decide), g1 12 (by decide), g1 10 (by decide), g1 13 (by decide)]
    exact ⟨s0, s1, rfl, s3, s4, s5, s6, s7, s8, s9⟩
  · rw [E0 0 (by decide) (by decide)] at x1
    have g := b x x0 x1
    have v6 := hB.2.2.2.2.1 x x0 (by omega)
    have v8 := hB.2.2.2.1 x x0 (by omega)
    have e6 := g.2.2.2.2.2.1
    exact BRr_same g (gb _ (by omega) (by omega)) (gb _ (by omega) (by omega)) (gb _ (by omega) (by omega)) (fun j j0 j1 => E0 j (by omega) (by omega)) v8.2 (by omega)
  · rw [E2] at m1
    have sm := st m m0 m1
    have g := c (stI k (A 2) m) sm.1 sm.2
    have kq := ld.1 (stI k (A 2) m) sm.1 (by omega)
    have v8 := hB.2.2.2.2.2.1 (stI k (A 2) m) sm.1 (by omega)
    have L := fun i i0 i1 => strA_l (A := A) (k := k) (m := m) (i := i) hk.1 m0 a2.2 m1 i0 i1
    have L0 := L 0 (by decide) (by decide)
    rw [Int.add_zero, Int.add_zero] at L0
    rw [g47, if_neg (by omega)]
    unfold LNr at g ⊢
    rw [(gl _ kq).1, L0, L 1 (by decide) (by decide), L 2 (by decide) (by decide), L 3 (by decide) (by decide)]
    refine ⟨g.1, g.2.1, g.2.2.1, VM_congr g.2.2.2 rfl (fun i i0 i1 => ?_)⟩
    have := L (4 + i) (by omega) (by omega)
    rw [← Int.add_assoc, ← Int.add_assoc] at this
    exact this.symm
  · rw [gs _ (by omega) (by omega), d x y x0 x1 y0 y1]
    exact hA _ _
  · have kw := e.1
    have nw := KWz kw
    obtain ⟨w0, w1, w2, w3⟩ := e
    have z := KZ (Or.inl kw)
    have ew : G (H 1 5) = H (H 1 5) := gc _ (by omega) (by omega) (by omega) (by omega) (fun l l0 l1 w => (DC l0 l1).2.2.2.1 (by rw [← w]; exact kw))
    have ew1 : G (H 1 5 + 1) = H (H 1 5 + 1) := gc _ (by omega) (by omega) (by omega) (by omega) (fun l l0 l1 w => (DC l0 l1).2.2.2.2.2 _ kw w)
    unfold LWr
    rw [g1 5 (by decide), ew, ew1, E0 10 (by decide) (by decide), E0 11 (by decide) (by decide)]
    exact ⟨w0, w1, w2, fun j j0 j1 => by rw [E0 (12 + j) (by omega) (by omega)]; exact w3 j j0 j1⟩
  · rw [E2] at m1
    have sm := st m m0 m1
    have g := gcr (stI k (A 2) m) sm.1 sm.2
    have kq := ld.1 (stI k (A 2) m) sm.1 (by omega)
    have v8 := hB.2.2.2.2.2.1 (stI k (A 2) m) sm.1 (by omega)
    have L := fun i i0 i1 => strA_l (A := A) (k := k) (m := m) (i := i) hk.1 m0 a2.2 m1 i0 i1
    rw [g47, if_neg (by omega), (gl _ kq).1, (gl _ kq).2, E0 0 (by decide) (by decide)]
    refine ⟨g.1, fun x x0 x1 x2 => ?_⟩
    rw [g.2 x x0 x1 x2]
    have vb := hB.2.2.2.1 x x0 (by omega)
    have vr := hB.2.2.2.2.1 x x0 (by omega)
    unfold lapA
    refine apB_EQ hA vb.1 (EB_out (fun i i0 i1 => (E0 _ (by omega) (by omega)).symm) vb.2 vr.2) (L 3 (by decide) (by decide)).symm (fun i i0 i1 => ?_)
    have := L (4 + i) (by omega) (by omega)
    rw [← Int.add_assoc, ← Int.add_assoc] at this
    exact this.symm
  · rw [g47]
    split
    · exact ho.1
    · rename_i ne
      have := stI_in hk a2.2 m0 m1 ne
      exact ld.1 _ this.1 this.2.1
  · rw [g47, g47] at w
    by_cases p : i = A 2 - 1
    · by_cases q : j = A 2 - 1
      · omega
      · rw [if_pos p, if_neg q] at w
        have := stI_in hk a2.2 j0 j1 q
        exact (ho.2 _ this.1 this.2.1 w).elim
    · have ii := stI_in hk a2.2 i0 i1 p
      by_cases q : j = A 2 - 1
      · rw [if_neg p, if_pos q] at w
        exact (ho.2 _ ii.1 ii.2.1 w.symm).elim
      · rw [if_neg p, if_neg q] at w
        have jj := stI_in hk a2.2 j0 j1 q
        exact stI_inj hk p q (ld.2 _ _ ii.1 ii.2.1 jj.1 jj.2.1 w)
