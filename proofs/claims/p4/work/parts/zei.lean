/-! ===== cure: both sides, with answers ===== -/
def cpA (A : Int → Int) (x y : Int) : Int → Int := xup (xup (xup A (76 + 2 * A 1) x) (76 + 2 * A 1 + 1) y) 1 (A 1 + 1)
theorem cpA_1 {A : Int → Int} {x y : Int} : cpA A x y 1 = A 1 + 1 := xup_a
theorem cpA_n {A : Int → Int} {x y j : Int} (h1 : ¬ j = 1) (h2 : ¬ j = 76 + 2 * A 1) (h3 : ¬ j = 76 + 2 * A 1 + 1) : cpA A x y j = A j := by
  unfold cpA
  rw [xup_n h1, xup_n h3, xup_n h2]
theorem cpA_b {A : Int → Int} {x y j : Int} (hA : 0 ≤ A 1 ∧ A 1 < 8) (h1 : ¬ j = 1) (h2 : j < 76 ∨ 92 ≤ j) : cpA A x y j = A j := cpA_n h1 (by omega) (by omega)
theorem cpA_x {A : Int → Int} {x y : Int} (hA : 0 ≤ A 1) : cpA A x y (76 + 2 * A 1) = x := by
  unfold cpA
  rw [xup_n (by omega), xup_n (by omega), xup_a]
theorem cpA_y {A : Int → Int} {x y : Int} (hA : 0 ≤ A 1) : cpA A x y (76 + 2 * A 1 + 1) = y := by
  unfold cpA
  rw [xup_n (by omega), xup_a]
theorem lik_cp {A : Int → Int} {x y : Int} (hA : 0 ≤ A 1 ∧ A 1 < 8) (u v : Int) : likA (cpA A x y) u v = true ↔ (likA A u v = true ∨ ((x = u ∧ y = v) ∨ (x = v ∧ y = u))) := by
  unfold likA
  rw [lkA_iff, lkA_iff, cpA_1]
  constructor
  · rintro ⟨j, a, b, c⟩
    by_cases e : j = A 1
    · rw [e, cpA_x hA.1, cpA_y hA.1] at c
      exact Or.inr c
    · rw [cpA_n (by omega) (by omega) (by omega), cpA_n (by omega) (by omega) (by omega)] at c
      exact Or.inl ⟨j, a, by omega, c⟩
  · rintro (⟨j, a, b, c⟩ | c)
    · refine ⟨j, a, by omega, ?_⟩
      rw [cpA_n (by omega) (by omega) (by omega), cpA_n (by omega) (by omega) (by omega)]
      exact c
    · refine ⟨A 1, hA.1, by omega, ?_⟩
      rw [cpA_x hA.1, cpA_y hA.1]
      exact c
theorem chA_cp_n {A : Int → Int} {x y u v : Int} (hA : 0 ≤ A 1 ∧ A 1 < 8) (h : ¬ ((x = u ∧ y = v) ∨ (x = v ∧ y = u))) : chA (cpA A x y) u v = chA A u v := by
  have e : likA (cpA A x y) u v = likA A u v := Bool.eq_iff_iff.mpr ⟨fun w => ((lik_cp hA u v).mp w).elim id (fun w => absurd w h), fun w => (lik_cp hA u v).mpr (Or.inl w)⟩
  unfold chA
  rw [e]
theorem chA_cp_y {A : Int → Int} {x y u v : Int} (hA : 0 ≤ A 1 ∧ A 1 < 8) (ne : ¬ u = v) (h : (x = u ∧ y = v) ∨ (x = v ∧ y = u)) : chA (cpA A x y) u v = 1 := by
  unfold chA
  rw [if_neg ne, if_pos (Or.inr (Or.inr ((lik_cp hA u v).mpr (Or.inr h))))]
theorem lap_u (B : Int → Int) (k b : Int) : lapA B k b = apF (fun i j => chA B (B (404 + 12 * k + 4 + i)) (B (92 + 26 * b + 1 + j))) (B (404 + 12 * k + 3)) (B (92 + 26 * b)) := rfl
theorem lap_cp {A : Int → Int} {x y k b : Int} (hA : 0 ≤ A 1 ∧ A 1 < 8) (hB : MB A) (hk : 0 ≤ k ∧ k < 60) (hb : 0 ≤ b ∧ b < 12) : lapA (cpA A x y) k b = apF (fun i j => chA (cpA A x y) (A (404 + 12 * k + 4 + i)) (A (92 + 26 * b + 1 + j))) (A (404 + 12 * k + 3)) (A (92 + 26 * b)) := by
  have l1 := hB.2.2.2.2.2.1 k hk.1 hk.2
  have l2 := hB.2.2.2.1 b hb.1 hb.2
  rw [lap_u, cpA_b (j := 404 + 12 * k + 3) hA (by omega) (by omega), cpA_b (j := 92 + 26 * b) hA (by omega) (by omega)]
  refine apF_eq l2.1 (fun i j i0 i1 j0 j1 => ?_)
  rw [cpA_b (j := 404 + 12 * k + 4 + i) hA (by omega) (by omega), cpA_b (j := 92 + 26 * b + 1 + j) hA (by omega) (by omega)]
/-- how a line is read with a couple more -/
def cuM (A : Int → Int) (k x y : Int) : Int := rdM (lapA (cpA A x y) k) (A 0) (A 3)
theorem cp_rd {A : Int → Int} (hA : 0 ≤ A 1 ∧ A 1 < 8) (k x y : Int) : rdL (cpA A x y) k = cuM A k x y := by
  have e := rdM_l (A := cpA A x y) (f := lapA (cpA A x y) k) (k := k) (fun _ _ _ => rfl)
  rw [cpA_b (j := 0) hA (by decide) (by decide), cpA_b (j := 3) hA (by decide) (by decide)] at e
  exact e.symm
theorem cuM_AT {A B : Int → Int} (h : AT A B) (ok : OKR A) (okB : OKR B) (h8 : A 1 < 8) {k : Int} (hk : 0 ≤ k ∧ k < 60) (x y : Int) : cuM A k x y = cuM B k x y := by
  have e1 : A 1 = B 1 := AT_c h (by decide)
  have e0 : A 0 = B 0 := AT_c h (by decide)
  have e3 : A 3 = B 3 := AT_c h (by decide)
  have a1 := ok.1.2.1
  have a0 := ok.1.1
  have hA : 0 ≤ A 1 ∧ A 1 < 8 := by omega
  have hB : 0 ≤ B 1 ∧ B 1 < 8 := by omega
  have lk : ∀ u v, likA A u v = likA B u v := fun u v => by
    unfold likA
    rw [← e1]
    exact lkA_EQ _ 0 (fun j j0 j1 => ⟨h.2 _ (by omega) (by omega) (by omega), h.2 _ (by omega) (by omega) (by omega)⟩)
  have ch : ∀ u v, chA (cpA A x y) u v = chA (cpA B x y) u v := fun u v => by
    have e : likA (cpA A x y) u v = likA (cpA B x y) u v := Bool.eq_iff_iff.mpr (by rw [lik_cp hA, lik_cp hB, lk])
    unfold chA
    rw [e]
  unfold cuM rdM
  rw [← e0, ← e3, rbF_eq (A 0).toNat 0 _ (fun b b0 b1 => ?_)]
  have l1 := ok.1.2.2.2.2.2.1 k hk.1 hk.2
  have l2 := ok.1.2.2.2.1 b b0 (by omega)
  rw [lap_cp hA ok.1 hk ⟨b0, by omega⟩, lap_cp hB okB.1 hk ⟨b0, by omega⟩, ← AT_c h (j := 404 + 12 * k + 3) (by omega), ← AT_c h (j := 92 + 26 * b) (by omega)]
  refine apF_eq l2.1 (fun i j i0 i1 j0 j1 => ?_)
  rw [ch, ← AT_c h (j := 404 + 12 * k + 4 + i) (by omega), ← AT_c h (j := 92 + 26 * b + 1 + j) (by omega)]
abbrev cfC (A : Int → Int) (k x o : Int) : Prop := ¬ ocF o = x ∧ ¬ likA A x (ocF o) = true ∧ 0 ≤ cuM A k x (ocF o)
def cfF (A : Int → Int) (k x : Int) : Nat → Int → Int
  | 0, _ => 0
  | n + 1, o => if cfC A k x o then o else cfF A k x n (o + 1)
def cuF (A : Int → Int) (k : Int) : Nat → Int → Int
  | 0, _ => -1
  | n + 1, i => if ¬ A (404 + 12 * k + 4 + i) = 46 ∧ ¬ cfF A k (A (404 + 12 * k + 4 + i)) 36 1 = 0 then 256 * A (404 + 12 * k + 4 + i) + ocF (cfF A k (A (404 + 12 * k + 4 + i)) 36 1) else cuF A k n (i + 1)
def cuQ (A : Int → Int) (k : Int) : Int := if ((0 ≤ k ∧ k < A 2) ∧ A 1 < 8) ∧ rdL A k < 0 then cuF A k (A (404 + 12 * k + 3)).toNat 0 else -1
theorem cfF_in (A : Int → Int) (k x : Int) : ∀ (n : Nat) (o : Int), 1 ≤ o → (cfF A k x n o = 0 ∨ (o ≤ cfF A k x n o ∧ cfF A k x n o < o + n))
  | 0, _, _ => Or.inl rfl
  | n + 1, o, h => by
    unfold cfF
    by_cases c : cfC A k x o
    · rw [if_pos c]
      exact Or.inr ⟨Int.le_refl _, by omega⟩
    · rw [if_neg c]
      rcases cfF_in A k x n (o + 1) (by omega) with g | g
      · exact Or.inl g
      · exact Or.inr (by omega)
set_option maxRecDepth 100000 in
theorem lp_hasA (m n c : Int) (f : Int → Int) (H : PH) (vm : VM m n f) {E : xE} {res : xR} : ∀ (N : Nat) (i : Int), 0 ≤ i → (∀ x, 0 ≤ x → x < i → ¬ sgf m x = c) → RUN E res N kd_X8_has (zget kd_X8_has 2) 2 [m, 0, c, i] [] H → ∃ v, REPR E res (some (0, v)) H ∧ ((v = 1 ∧ ∃ x, 0 ≤ x ∧ x < n ∧ sgf m x = c) ∨ (v = 0 ∧ ∀ x, 0 ≤ x → x < n → ¬ sgf m x = c)) := by
  have sz := vm.1
  intro N
  induction N using Nat.strongRecOn with
  | _ N ih =>
    intro i i0 hN h
    by_cases q : i < n
    · have q' : ¬ n ≤ i := by omega
      have z1 : zw (i + 1) = i + 1 := zw_lit (by have := vm.2.1; omega) (by have := vm.2.1; omega)
      by_cases e : sgf m i = c
      · have e' : (sgf m i = c) = True := eq_true e
        have h := xw_top (hd := [2]) 6 xD6_ok xc_X8_has xa_X8_has (t := 2) rfl h
        simp (maxDischargeDepth := 12) -implicitDefEqProofs [vb_X8_has_0, vb_X8_has_2, vb_X8_has_21, vb_X8_has_27, xI_1, xI_2, xI_3, xI_6, xI_7, xI_36, xI_44, xI_46, xI_60, xI_62, xw_X8_has_0, xw_X8_has_2, xw_X8_has_21, xw_X8_has_27, zw_lit, xB_c, xB_s, xB_n, i1_c, j2_c, k1_c, jJ_e, xlg, xls, xla, xpd, ppush, zw_m1, zw_m2, zw_m3, xD1, xD2, xD3, xD4, xD5, xD6, xb1_0, sz, q, q', e'] at h
        exact ⟨_, h, Or.inl ⟨rfl, i, i0, q, e⟩⟩
      · have h := xw_top (hd := [2]) 6 xD6_ok xc_X8_has xa_X8_has (t := 2) rfl h
        simp (maxDischargeDepth := 12) -implicitDefEqProofs [vb_X8_has_0, vb_X8_has_2, vb_X8_has_21, vb_X8_has_27, xI_1, xI_2, xI_3, xI_6, xI_7, xI_36, xI_44, xI_46, xI_60, xI_62, xw_X8_has_0, xw_X8_has_2, xw_X8_has_21, xw_X8_has_27, zw_lit, xB_c, xB_s, xB_n, i1_c, j2_c, k1_c, jJ_e, xlg, xls, xla, xpd, ppush, zw_m1, zw_m2, zw_m3, xD1, xD2, xD3, xD4, xD5, xD6, xb1_0, sz, q, q', e, z1] at h
        obtain ⟨k, hk, h⟩ := h
        exact ih k hk (i + 1) (by omega) (fun x x0 x1 => by
          by_cases w : x = i
          · rw [w]
            exact e
          · exact hN x x0 (by omega)) h
    · have q' : n ≤ i := by omega
      have h := xw_top (hd := [2]) 6 xD6_ok xc_X8_has xa_X8_has (t := 2) rfl h
      simp (maxDischargeDepth := 12) -implicitDefEqProofs [vb_X8_has_0, vb_X8_has_2, vb_X8_has_21, vb_X8_has_27, xI_1, xI_2, xI_3, xI_6, xI_7, xI_36, xI_44, xI_46, xI_60, xI_62, xw_X8_has_0, xw_X8_has_2, xw_X8_has_21, xw_X8_has_27, zw_lit, xB_c, xB_s, xB_n, i1_c, j2_c, k1_c, jJ_e, xlg, xls, xla, xpd, ppush, zw_m1, zw_m2, zw_m3, xD1, xD2, xD3, xD4, xD5, xD6, xb1_0, sz, q, q'] at h
      exact ⟨_, h, Or.inr ⟨rfl, fun x x0 x1 => hN x x0 (by omega)⟩⟩
theorem sp_X8_has (m n c : Int) (f : Int → Int) (H : PH) (vm : VM m n f) : SPEC 78 [(1, m), (0, c)] H (fun r H' => (∃ v, r = some (0, v) ∧ ((v = 1 ∧ ∃ x, 0 ≤ x ∧ x < n ∧ sgf m x = c) ∨ (v = 0 ∧ ∀ x, 0 ≤ x → x < n → ¬ sgf m x = c))) ∧ H' = H) := by
  intro E N res h
  have h := call_runP 4 vm_X8_has h
  have h := xw_top (hd := [2]) 6 xD6_ok xc_X8_has xa_X8_has (t := 0) rfl h
  simp (maxDischargeDepth := 12) -implicitDefEqProofs [vb_X8_has_0, vb_X8_has_2, vb_X8_has_21, vb_X8_has_27, xI_1, xI_2, xI_3, xI_6, xI_7, xI_36, xI_44, xI_46, xI_60, xI_62, xw_X8_has_0, xw_X8_has_2, xw_X8_has_21, xw_X8_has_27, zw_lit, xB_c, xB_s, xB_n, i1_c, j2_c, k1_c, jJ_e, xlg, xls, xla, xpd, ppush, zw_m1, zw_m2, zw_m3, xD1, xD2, xD3, xD4, xD5, xD6, xb1_0] at h
  obtain ⟨k, hk, h⟩ := h
  obtain ⟨v, g, w⟩ := lp_hasA m n c f H vm k 0 (by decide) (fun x x0 x1 => by omega) h
  exact ⟨_, _, g, ⟨v, rfl, w⟩, rfl⟩
set_option maxRecDepth 100000 in
theorem lp_iscA (k s o g sm both : Int) (A : Int → Int) (S : Int → Int → Int) (N : Int) (X : PH) (hS : S 0 = A) (hX : RC X S N) (h8 : A 1 < 8) (hk : 0 ≤ k ∧ k < A 2) (vs : VM sm (A (404 + 12 * k + 3)) (fun i => A (404 + 12 * k + 4 + i))) (hg : 0 ≤ g) (g54 : ¬ g = 44 ∧ ¬ g = 45 ∧ ¬ g = 54 ∧ ¬ g = 4 + s ∧ ¬ g = 4 + o) (gg : ∀ x, 0 ≤ x → x < A 0 → X g x = lapA A k x) (hso : (1 ≤ s ∧ s ≤ 36) ∧ (1 ≤ o ∧ o ≤ 36)) (nso : ¬ o = s) (hbo : (both = 1 ∧ ∃ x, 0 ≤ x ∧ x < A (404 + 12 * k + 3) ∧ sgf sm x = o) ∨ (both = 0 ∧ ∀ x, 0 ≤ x → x < A (404 + 12 * k + 3) → ¬ sgf sm x = o)) {E : xE} {res : xR} : ∀ (n : Nat) (b ch x y : Int) (H : PH), 0 ≤ b → b ≤ A 0 → (∀ c, ¬ c = 44 → ¬ c = 45 → ¬ c = 54 → H c = pup (pup X (4 + s) o 1) (4 + o) s 1 c) → (∀ x, 0 ≤ x → x < b → H 54 x = lapA (cpA A (ocF s) (ocF o)) k x) → ((ch = 0 ∧ ∀ x, 0 ≤ x → x < b → lapA (cpA A (ocF s) (ocF o)) k x = lapA A k x) ∨ ch = 1) → RUN E res n kd_X1_isCure (zget kd_X1_isCure 42) 42 [1, k, s, o, g, sm, 0, both, ch, b, x, y] [] H → ∃ (H' : PH) (b' ch' x' y' : Int), (∀ c, ¬ c = 44 → ¬ c = 45 → ¬ c = 54 → H' c = pup (pup X (4 + s) o 1) (4 + o) s 1 c) ∧ (∀ x, 0 ≤ x → x < A 0 → H' 54 x = lapA (cpA A (ocF s) (ocF o)) k x) ∧ ((ch' = 0 ∧ ∀ x, 0 ≤ x → x < A 0 → lapA (cpA A (ocF s) (ocF o)) k x = lapA A k x) ∨ ch' = 1) ∧ xJ E res n kd_X1_isCure 125 [1, k, s, o, g, sm, 0, both, ch', b', x', y'] [] H' := by
  have ok := RC_sz hX
  rw [hS] at ok
  have ci := hX.1
  rw [hS] at ci
  have a0 := ok.1.1
  have a1 := ok.1.2.1
  have a2 := ok.1.2.2.1
  have hA : 0 ≤ A 1 ∧ A 1 < 8 := by omega
  have nso' : ¬ ocF s = ocF o := fun e => nso (ocF_inj (by omega) (by omega) e).symm
  have n4 : ¬ (4 + o : Int) = 4 + s := fun e => nso (by omega)
  intro n
  induction n using Nat.strongRecOn with
  | _ n ih =>
    intro b ch x y H b0 b1 hF h54 hch h
    have e2 : H 1 2 = A 0 := by
      rw [hF 1 (by decide) (by decide) (by decide), xp_ne (by omega), xp_ne (by omega)]
      exact ci.1.1.1.symm
    by_cases c : b < A 0
    · have c' : ¬ A 0 ≤ b := by omega
      have z1 : zw (b + 1) = b + 1 := zw_lit (by omega) (by omega)
      have g46 : ∀ Y : PH, gv Y 46 b = 57 + 3 * b := fun Y => gv46 b0 (by omega)
      have kb : ∀ Y : PH, gv Y (57 + 3 * b) 0 = Y (57 + 3 * b) 0 := (KB_f (KB_of (b := b) b0 (by omega))).2.2.1
      have hm : H (57 + 3 * b) 0 = X (57 + 3 * b) 0 := by
        rw [hF _ (by omega) (by omega) (by omega), xp_ne (by omega), xp_ne (by omega)]
      have vb := (ci.1.2.1 b b0 c).1
      have hgb : H g b = lapA A k b := by
        rw [hF g g54.1 g54.2.1 g54.2.2.1, xp_ne g54.2.2.2.2, xp_ne g54.2.2.2.1]
        exact gg b b0 c
      have lc := lap_cp (x := ocF s) (y := ocF o) (k := k) (b := b) hA ok.1 ⟨hk.1, by omega⟩ ⟨b0, by omega⟩
      -- nothing else than before
      have same : (∀ j, 0 ≤ j → j < A (92 + 26 * b) → ¬ sgf (X (57 + 3 * b) 0) j = o) → (both = 0 ∨ ∀ j, 0 ≤ j → j < A (92 + 26 * b) → ¬ sgf (X (57 + 3 * b) 0) j = s) → lapA (cpA A (ocF s) (ocF o)) k b = lapA A k b := fun h1 h2 => by
        rw [lc, lap_u]
        refine apF_eq (ok.1.2.2.2.1 b b0 (by omega)).1 (fun i j i0 i1 j0 j1 => chA_cp_n hA ?_)
        obtain ⟨p1, p2, p3⟩ := vs.2.2.1 i i0 i1
        obtain ⟨r1, r2, r3⟩ := vb.2.2.1 j j0 j1
        have p3 : A (404 + 12 * k + 4 + i) = ocF (sgf sm i) := p3
        have r3 : A (92 + 26 * b + 1 + j) = ocF (sgf (X (57 + 3 * b) 0) j) := r3
        rw [p3, r3]
        rintro (⟨_, w2⟩ | ⟨w1, w2⟩)
        · exact h1 j j0 j1 (ocF_inj ⟨r1, r2⟩ (by omega) w2.symm)
        · have es : sgf (X (57 + 3 * b) 0) j = s := ocF_inj ⟨r1, r2⟩ (by omega) w1.symm
          have eo : sgf sm i = o := ocF_inj ⟨p1, p2⟩ (by omega) w2.symm
          rcases h2 with h2 | h2
          · rcases hbo with ⟨q, _⟩ | ⟨_, q⟩
            · omega
            · exact q i i0 i1 eo
          · exact h2 j j0 j1 es
      -- measured anew
      have gap : ∀ Y : PH, (∀ d, ¬ d = 44 → ¬ d = 45 → ¬ d = 54 → Y d = pup (pup X (4 + s) o 1) (4 + o) s 1 d) → apC Y sm (X (57 + 3 * b) 0) = lapA (cpA A (ocF s) (ocF o)) k b := fun Y hY => by
        rw [lc]
        refine apC_A (fun u v u0 u1 v0 v1 => ?_) vs vb
        rw [hY _ (by omega) (by omega) (by omega)]
        have base := ci.1.2.2.2.1 u v u0 u1 v0 v1
        have inj : ∀ {p q : Int}, 1 ≤ p → p ≤ 37 → 1 ≤ q → q ≤ 37 → ocF p = ocF q → p = q := fun a b c d e => ocF_inj ⟨a, b⟩ ⟨c, d⟩ e
        by_cases p1 : u = o
        · rw [p1, xp_at]
          by_cases p2 : v = s
          · rw [if_pos p2, p2]
            exact (chA_cp_y hA (fun e => nso' e.symm) (Or.inr ⟨rfl, rfl⟩)).symm
          · rw [if_neg p2, xp_ne n4, ← p1, base]
            refine (chA_cp_n hA ?_).symm
            rintro (⟨w1, w2⟩ | ⟨w1, w2⟩)
            · exact nso (by rw [← p1]; exact inj u0 u1 (by omega) (by omega) w1.symm)
            · exact p2 (inj v0 v1 (by omega) (by omega) w1.symm)
        · rw [xp_ne (show ¬ 4 + u = 4 + o by omega)]
          by_cases p3 : u = s
          · rw [p3, xp_at]
            by_cases p2 : v = o
            · rw [if_pos p2, p2]
              exact (chA_cp_y hA nso' (Or.inl ⟨rfl, rfl⟩)).symm
            · rw [if_neg p2, ← p3, base]
              refine (chA_cp_n hA ?_).symm
              rintro (⟨w1, w2⟩ | ⟨w1, w2⟩)
              · exact p2 (inj v0 v1 (by omega) (by omega) w2.symm)
              · exact p1 (inj u0 u1 (by omega) (by omega) w2.symm)
          · rw [xp_ne (show ¬ 4 + u = 4 + s by omega), base]
            refine (chA_cp_n hA ?_).symm
            rintro (⟨w1, w2⟩ | ⟨w1, w2⟩)
            · exact p3 (inj u0 u1 (by omega) (by omega) w1.symm)
            · exact p1 (inj u0 u1 (by omega) (by omega) w2.symm)
      have nx : ∀ (Y : PH) (ch' x' y' : Int), (∀ c, ¬ c = 44 → ¬ c = 45 → ¬ c = 54 → Y c = pup (pup X (4 + s) o 1) (4 + o) s 1 c) → (∀ x, 0 ≤ x → x < b → Y 54 x = lapA (cpA A (ocF s) (ocF o)) k x) → Y 54 b = lapA (cpA A (ocF s) (ocF o)) k b → ((ch' = 0 ∧ ∀ x, 0 ≤ x → x < b + 1 → lapA (cpA A (ocF s) (ocF o)) k x = lapA A k x) ∨ ch' = 1) → xJ E res n kd_X1_isCure 42 [1, k, s, o, g, sm, 0, both, ch', b + 1, x', y'] [] Y → ∃ (H' : PH) (b' ch' x' y' : Int), (∀ c, ¬ c = 44 → ¬ c = 45 → ¬ c = 54 → H' c = pup (pup X (4 + s) o 1) (4 + o) s 1 c) ∧ (∀ x, 0 ≤ x → x < A 0 → H' 54 x = lapA (cpA A (ocF s) (ocF o)) k x) ∧ ((ch' = 0 ∧ ∀ x, 0 ≤ x → x < A 0 → lapA (cpA A (ocF s) (ocF o)) k x = lapA A k x) ∨ ch' = 1) ∧ xJ E res n kd_X1_isCure 125 [1, k, s, o, g, sm, 0, both, ch', b', x', y'] [] H' := by
        rintro Y ch' x' y' hY y54 yb hc ⟨m, hm, q⟩
        obtain ⟨H', b', c'', x'', y'', j1, j2, j3, j4⟩ := ih m hm (b + 1) ch' x' y' Y (by omega) (by omega) hY (fun x x0 x1 => by
          by_cases w : x = b
          · rw [w]
            exact yb
          · exact y54 x x0 (by omega)) hc q
        exact ⟨H', b', c'', x'', y'', j1, j2, j3, xJ_up j4 (by omega)⟩
      have keep : lapA (cpA A (ocF s) (ocF o)) k b = lapA A k b → ((ch = 0 ∧ ∀ x, 0 ≤ x → x < b + 1 → lapA (cpA A (ocF s) (ocF o)) k x = lapA A k x) ∨ ch = 1) := fun e => hch.elim (fun w => Or.inl ⟨w.1, fun x x0 x1 => by
        by_cases q : x = b
        · rw [q]
          exact e
        · exact w.2 x x0 (by omega)⟩) Or.inr
      have h := xw_top (hd := [42, 125]) 9 xD6_ok xc_X1_isCure xa_X1_isCure (t := 42) rfl h
      simp (maxDischargeDepth := 12) -implicitDefEqProofs [vb_X1_isCure_0, vb_X1_isCure_42, vb_X1_isCure_98, vb_X1_isCure_119, vb_X1_isCure_125, vb_X1_isCure_159, vb_X1_isCure_160, xI_0, xI_1, xI_2, xI_3, xI_4, xI_5, xI_6, xI_7, xI_36, xI_37, xI_38, xI_39, xI_46, xI_49, xI_51, xI_52, xI_53, xI_60, xI_61, xI_62, xw_X1_isCure_0, xw_X1_isCure_42, xw_X1_isCure_98, xw_X1_isCure_119, xw_X1_isCure_125, xw_X1_isCure_159, xw_X1_isCure_160, zw_lit, xB_c, xB_s, xB_n, i1_c, j2_c, k1_c, jJ_e, xlg, xls, xla, xpd, ppush, zw_m1, zw_m2, zw_m3, gf_0_0, gf_1_0, gf_1_1, gf_1_2, gf_1_3, gf_1_7, gf_1_14, gf_5_3, tg_0_0, tg_1_0, tg_1_1, tg_1_14, tg_1_2, tg_1_3, tg_1_7, tg_5_3, gv_1_0, gv_1_1, gv_1_2, gv_1_3, gv_1_7, gv_1_14, xD1, xD2, xD3, xD4, xD5, xD6, xb1_0, e2, c, c', g46, kb, hg, xp_ne, hm] at h
      have hH : ∀ d, ¬ d = 44 → ¬ d = 45 → ¬ d = 54 → pup H 54 b (H g b) d = pup (pup X (4 + s) o 1) (4 + o) s 1 d := fun d d1 d2 d3 => by rw [xp_ne d3]; exact hF d d1 d2 d3
      have hH54 : ∀ x, 0 ≤ x → x < b → pup H 54 b (H g b) 54 x = lapA (cpA A (ocF s) (ocF o)) k x := fun x x0 x1 => by rw [xp_at, if_neg (by omega)]; exact h54 x x0 x1
      have hHb : pup H 54 b (H g b) 54 b = lapA A k b := by rw [xp_at, if_pos rfl]; exact hgb
      have gapU : ∀ (Y Z : PH) (u : Int), (∀ d, ¬ d = 44 → ¬ d = 45 → ¬ d = 54 → Y d = pup (pup X (4 + s) o 1) (4 + o) s 1 d) → (∀ d, ¬ d = 44 → ¬ d = 45 → Z d = Y d) → ∀ d, ¬ d = 44 → ¬ d = 45 → ¬ d = 54 → pup Z 54 b u d = pup (pup X (4 + s) o 1) (4 + o) s 1 d := fun Y Z u hY hZ d d1 d2 d3 => by rw [xp_ne d3, hZ d d1 d2]; exact hY d d1 d2 d3
      have v1 : 0 ≤ szf sm ∧ szf sm ≤ 8 := by have := vs.1; have := vs.2.1; omega
      have v2 : 0 ≤ szf (X (57 + 3 * b) 0) ∧ szf (X (57 + 3 * b) 0) ≤ 8 := by have := vb.1; have := vb.2.1; omega
      have v3 : ∀ i, 0 ≤ i → i < szf sm → 0 ≤ sgf sm i ∧ sgf sm i < 38 := fun i i0 i1 => by
        have := vs.2.2.1 i i0 (by rw [← vs.1]; exact i1)
        omega
      have fin : ∀ (Z : PH), (∀ d, ¬ d = 44 → ¬ d = 45 → Z d = pup H 54 b (H g b) d) → ∀ x, 0 ≤ x → x < b → pup Z 54 b (lapA (cpA A (ocF s) (ocF o)) k b) 54 x = lapA (cpA A (ocF s) (ocF o)) k x := fun Z hZ x x0 x1 => by rw [xp_at, if_neg (by omega), hZ 54 (by decide) (by decide)]; exact hH54 x x0 x1
      obtain ⟨r1, H1, ⟨⟨u1, rfl, w1⟩, rfl⟩, g1⟩ := xc_use h (sp_X8_has (X (57 + 3 * b) 0) _ o _ _ vb)
      rcases w1 with ⟨rfl, _⟩ | ⟨rfl, w1⟩
      · simp (maxDischargeDepth := 12) -implicitDefEqProofs [vb_X1_isCure_0, vb_X1_isCure_42, vb_X1_isCure_98, vb_X1_isCure_119, vb_X1_isCure_125, vb_X1_isCure_159, vb_X1_isCure_160, xI_0, xI_1, xI_2, xI_3, xI_4, xI_5, xI_6, xI_7, xI_36, xI_37, xI_38, xI_39, xI_46, xI_49, xI_51, xI_52, xI_53, xI_60, xI_61, xI_62, xw_X1_isCure_0, xw_X1_isCure_42, xw_X1_isCure_98, xw_X1_isCure_119, xw_X1_isCure_125, xw_X1_isCure_159, xw_X1_isCure_160, zw_lit, xB_c, xB_s, xB_n, i1_c, j2_c, k1_c, jJ_e, xlg, xls, xla, xpd, ppush, zw_m1, zw_m2, zw_m3, gf_0_0, gf_1_0, gf_1_1, gf_1_2, gf_1_3, gf_1_7, gf_1_14, gf_5_3, tg_0_0, tg_1_0, tg_1_1, tg_1_14, tg_1_2, tg_1_3, tg_1_7, tg_5_3, gv_1_0, gv_1_1, gv_1_2, gv_1_3, gv_1_7, gv_1_14, xD1, xD2, xD3, xD4, xD5, xD6, xb1_0] at g1
        obtain ⟨r3, H3, ⟨rfl, fr⟩, g3⟩ := xc_use g1 (sp_X8_gap sm (X (57 + 3 * b) 0) _ v1 v2 v3)
        rw [gap _ hH] at g3
        simp (maxDischargeDepth := 12) -implicitDefEqProofs [vb_X1_isCure_0, vb_X1_isCure_42, vb_X1_isCure_98, vb_X1_isCure_119, vb_X1_isCure_125, vb_X1_isCure_159, vb_X1_isCure_160, xI_0, xI_1, xI_2, xI_3, xI_4, xI_5, xI_6, xI_7, xI_36, xI_37, xI_38, xI_39, xI_46, xI_49, xI_51, xI_52, xI_53, xI_60, xI_61, xI_62, xw_X1_isCure_0, xw_X1_isCure_42, xw_X1_isCure_98, xw_X1_isCure_119, xw_X1_isCure_125, xw_X1_isCure_159, xw_X1_isCure_160, zw_lit, xB_c, xB_s, xB_n, i1_c, j2_c, k1_c, jJ_e, xlg, xls, xla, xpd, ppush, zw_m1, zw_m2, zw_m3, gf_0_0, gf_1_0, gf_1_1, gf_1_2, gf_1_3, gf_1_7, gf_1_14, gf_5_3, tg_0_0, tg_1_0, tg_1_1, tg_1_14, tg_1_2, tg_1_3, tg_1_7, tg_5_3, gv_1_0, gv_1_1, gv_1_2, gv_1_3, gv_1_7, gv_1_14, xD1, xD2, xD3, xD4, xD5, xD6, xb1_0, z1] at g3
        exact nx _ _ _ _ (gapU _ H3 _ hH fr) (fin H3 fr) (by rw [xp_at, if_pos rfl]) (Or.inr rfl) g3
      · rcases hbo with ⟨q, q2⟩ | ⟨q, q2⟩
        · simp (maxDischargeDepth := 12) -implicitDefEqProofs [vb_X1_isCure_0, vb_X1_isCure_42, vb_X1_isCure_98, vb_X1_isCure_119, vb_X1_isCure_125, vb_X1_isCure_159, vb_X1_isCure_160, xI_0, xI_1, xI_2, xI_3, xI_4, xI_5, xI_6, xI_7, xI_36, xI_37, xI_38, xI_39, xI_46, xI_49, xI_51, xI_52, xI_53, xI_60, xI_61, xI_62, xw_X1_isCure_0, xw_X1_isCure_42, xw_X1_isCure_98, xw_X1_isCure_119, xw_X1_isCure_125, xw_X1_isCure_159, xw_X1_isCure_160, zw_lit, xB_c, xB_s, xB_n, i1_c, j2_c, k1_c, jJ_e, xlg, xls, xla, xpd, ppush, zw_m1, zw_m2, zw_m3, gf_0_0, gf_1_0, gf_1_1, gf_1_2, gf_1_3, gf_1_7, gf_1_14, gf_5_3, tg_0_0, tg_1_0, tg_1_1, tg_1_14, tg_1_2, tg_1_3, tg_1_7, tg_5_3, gv_1_0, gv_1_1, gv_1_2, gv_1_3, gv_1_7, gv_1_14, xD1, xD2, xD3, xD4, xD5, xD6, xb1_0, q, hm] at g1
          obtain ⟨r2, H2, ⟨⟨u2, rfl, w2⟩, rfl⟩, g2⟩ := xc_use g1 (sp_X8_has (X (57 + 3 * b) 0) _ s _ _ vb)
          rcases w2 with ⟨rfl, _⟩ | ⟨rfl, w2⟩
          · simp (maxDischargeDepth := 12) -implicitDefEqProofs [vb_X1_isCure_0, vb_X1_isCure_42, vb_X1_isCure_98, vb_X1_isCure_119, vb_X1_isCure_125, vb_X1_isCure_159, vb_X1_isCure_160, xI_0, xI_1, xI_2, xI_3, xI_4, xI_5, xI_6, xI_7, xI_36, xI_37, xI_38, xI_39, xI_46, xI_49, xI_51, xI_52, xI_53, xI_60, xI_61, xI_62, xw_X1_isCure_0, xw_X1_isCure_42, xw_X1_isCure_98, xw_X1_isCure_119, xw_X1_isCure_125, xw_X1_isCure_159, xw_X1_isCure_160, zw_lit, xB_c, xB_s, xB_n, i1_c, j2_c, k1_c, jJ_e, xlg, xls, xla, xpd, ppush, zw_m1, zw_m2, zw_m3, gf_0_0, gf_1_0, gf_1_1, gf_1_2, gf_1_3, gf_1_7, gf_1_14, gf_5_3, tg_0_0, tg_1_0, tg_1_1, tg_1_14, tg_1_2, tg_1_3, tg_1_7, tg_5_3, gv_1_0, gv_1_1, gv_1_2, gv_1_3, gv_1_7, gv_1_14, xD1, xD2, xD3, xD4, xD5, xD6, xb1_0] at g2
            obtain ⟨r3, H3, ⟨rfl, fr⟩, g3⟩ := xc_use g2 (sp_X8_gap sm (X (57 + 3 * b) 0) _ v1 v2 v3)
            rw [gap _ hH] at g3
            simp (maxDischargeDepth := 12) -implicitDefEqProofs [vb_X1_isCure_0, vb_X1_isCure_42, vb_X1_isCure_98, vb_X1_isCure_119, vb_X1_isCure_125, vb_X1_isCure_159, vb_X1_isCure_160, xI_0, xI_1, xI_2, xI_3, xI_4, xI_5, xI_6, xI_7, xI_36, xI_37, xI_38, xI_39, xI_46, xI_49, xI_51, xI_52, xI_53, xI_60, xI_61, xI_62, xw_X1_isCure_0, xw_X1_isCure_42, xw_X1_isCure_98, xw_X1_isCure_119, xw_X1_isCure_125, xw_X1_isCure_159, xw_X1_isCure_160, zw_lit, xB_c, xB_s, xB_n, i1_c, j2_c, k1_c, jJ_e, xlg, xls, xla, xpd, ppush, zw_m1, zw_m2, zw_m3, gf_0_0, gf_1_0, gf_1_1, gf_1_2, gf_1_3, gf_1_7, gf_1_14, gf_5_3, tg_0_0, tg_1_0, tg_1_1, tg_1_14, tg_1_2, tg_1_3, tg_1_7, tg_5_3, gv_1_0, gv_1_1, gv_1_2, gv_1_3, gv_1_7, gv_1_14, xD1, xD2, xD3, xD4, xD5, xD6, xb1_0, z1] at g3
            first
              | exact nx _ _ _ _ (gapU _ H3 _ hH fr) (fin H3 fr) (by rw [xp_at, if_pos rfl]) (Or.inr rfl) g3
              | exact nx _ _ _ _ (gapU _ H3 _ hH fr) (fin H3 fr) (by rw [xp_at, if_pos rfl]) (Or.inr rfl) (by rw [q]; exact g3)
          · have e := same w1 (Or.inr w2)
            simp (maxDischargeDepth := 12) -implicitDefEqProofs [vb_X1_isCure_0, vb_X1_isCure_42, vb_X1_isCure_98, vb_X1_isCure_119, vb_X1_isCure_125, vb_X1_isCure_159, vb_X1_isCure_160, xI_0, xI_1, xI_2, xI_3, xI_4, xI_5, xI_6, xI_7, xI_36, xI_37, xI_38, xI_39, xI_46, xI_49, xI_51, xI_52, xI_53, xI_60, xI_61, xI_62, xw_X1_isCure_0, xw_X1_isCure_42, xw_X1_isCure_98, xw_X1_isCure_119, xw_X1_isCure_125, xw_X1_isCure_159, xw_X1_isCure_160, zw_lit, xB_c, xB_s, xB_n, i1_c, j2_c, k1_c, jJ_e, xlg, xls, xla, xpd, ppush, zw_m1, zw_m2, zw_m3, gf_0_0, gf_1_0, gf_1_1, gf_1_2, gf_1_3, gf_1_7, gf_1_14, gf_5_3, tg_0_0, tg_1_0, tg_1_1, tg_1_14, tg_1_2, tg_1_3, tg_1_7, tg_5_3, gv_1_0, gv_1_1, gv_1_2, gv_1_3, gv_1_7, gv_1_14, xD1, xD2, xD3, xD4, xD5, xD6, xb1_0, z1] at g2
            first
              | exact nx _ _ _ _ hH hH54 (hHb.trans e.symm) (keep e) g2
              | exact nx _ _ _ _ hH hH54 (hHb.trans e.symm) (keep e) (by rw [q]; exact g2)
        · have e := same w1 (Or.inl q)
          simp (maxDischargeDepth := 12) -implicitDefEqProofs [vb_X1_isCure_0, vb_X1_isCure_42, vb_X1_isCure_98, vb_X1_isCure_119, vb_X1_isCure_125, vb_X1_isCure_159, vb_X1_isCure_160, xI_0, xI_1, xI_2, xI_3, xI_4, xI_5, xI_6, xI_7, xI_36, xI_37, xI_38, xI_39, xI_46, xI_49, xI_51, xI_52, xI_53, xI_60, xI_61, xI_62, xw_X1_isCure_0, xw_X1_isCure_42, xw_X1_isCure_98, xw_X1_isCure_119, xw_X1_isCure_125, xw_X1_isCure_159, xw_X1_isCure_160, zw_lit, xB_c, xB_s, xB_n, i1_c, j2_c, k1_c, jJ_e, xlg, xls, xla, xpd, ppush, zw_m1, zw_m2, zw_m3, gf_0_0, gf_1_0, gf_1_1, gf_1_2, gf_1_3, gf_1_7, gf_1_14, gf_5_3, tg_0_0, tg_1_0, tg_1_1, tg_1_14, tg_1_2, tg_1_3, tg_1_7, tg_5_3, gv_1_0, gv_1_1, gv_1_2, gv_1_3, gv_1_7, gv_1_14, xD1, xD2, xD3, xD4, xD5, xD6, xb1_0, q, z1] at g1
          first
            | exact nx _ _ _ _ hH hH54 (hHb.trans e.symm) (keep e) g1
            | exact nx _ _ _ _ hH hH54 (hHb.trans e.symm) (keep e) (by rw [q]; exact g1)
    · have c' : A 0 ≤ b := by omega
      have eb : b = A 0 := by omega
      have h := xw_top (hd := [42, 125]) 9 xD6_ok xc_X1_isCure xa_X1_isCure (t := 42) rfl h
      simp (maxDischargeDepth := 12) -implicitDefEqProofs [vb_X1_isCure_0, vb_X1_isCure_42, vb_X1_isCure_98, vb_X1_isCure_119, vb_X1_isCure_125, vb_X1_isCure_159, vb_X1_isCure_160, xI_0, xI_1, xI_2, xI_3, xI_4, xI_5, xI_6, xI_7, xI_36, xI_37, xI_38, xI_39, xI_46, xI_49, xI_51, xI_52, xI_53, xI_60, xI_61, xI_62, xw_X1_isCure_0, xw_X1_isCure_42, xw_X1_isCure_98, xw_X1_isCure_119, xw_X1_isCure_125, xw_X1_isCure_159, xw_X1_isCure_160, zw_lit, xB_c, xB_s, xB_n, i1_c, j2_c, k1_c, jJ_e, xlg, xls, xla, xpd, ppush, zw_m1, zw_m2, zw_m3, gf_0_0, gf_1_0, gf_1_1, gf_1_2, gf_1_3, gf_1_7, gf_1_14, gf_5_3, tg_0_0, tg_1_0, tg_1_1, tg_1_14, tg_1_2, tg_1_3, tg_1_7, tg_5_3, gv_1_0, gv_1_1, gv_1_2, gv_1_3, gv_1_7, gv_1_14, xD1, xD2, xD3, xD4, xD5, xD6, xb1_0, e2, c, c'] at h
      rw [eb] at h54 hch
      exact ⟨H, _, _, _, _, hF, h54, hch, h⟩
set_option maxRecDepth 100000 in
theorem sp_c_isCure (k s o : Int) (S : Int → Int → Int) (n : Int) (H : PH) (hR : RC H S n) (hM : MCC (S 0) H) (h8 : S 0 1 < 8) (hk : 0 ≤ k ∧ k < S 0 2) (hrd : rdL (S 0) k < 0) (hso : ((1 ≤ s ∧ s ≤ 36) ∧ (1 ≤ o ∧ o ≤ 36)) ∧ ¬ o = s) (h3 : ¬ H (4 + s) o = 1) : SPEC 19 [(2, 1), (0, k), (0, s), (0, o)] H (fun r H' => r = some (0, if 0 ≤ cuM (S 0) k (ocF s) (ocF o) then 1 else 0) ∧ CQ H H' S n) := by
  intro E n' res h
  have ok := RC_sz hR
  have a2 := ok.1.2.2.1
  have a0 := ok.1.1
  have a1 := ok.1.2.1
  have hA : 0 ≤ S 0 1 ∧ S 0 1 < 8 := ⟨a1.1, h8⟩
  obtain ⟨⟨s1, s2⟩, s3⟩ := hso
  have cm := hR.1.1.2.2.2.1
  have c1 := cm s o (by omega) (by omega) (by omega) (by omega)
  have c2 := cm o s (by omega) (by omega) (by omega) (by omega)
  have ne : ¬ ocF s = ocF o := fun e => s3 (ocF_inj (by omega) (by omega) e).symm
  have n46 : ∀ c : Int, 1 ≤ c → c ≤ 36 → ¬ ocF c = 46 := fun c h1 h2 => by
    unfold ocF
    rw [if_neg (by omega)]
    split <;> omega
  have lk : ¬ likA (S 0) (ocF s) (ocF o) = true := fun w => h3 (by
    rw [c1]
    unfold chA
    rw [if_neg ne, if_pos (Or.inr (Or.inr w))])
  have e3 : H (4 + s) o = 3 := by
    rw [c1]
    unfold chA
    rw [if_neg ne, if_neg]
    rintro (w | w | w)
    · exact n46 s (by omega) (by omega) w
    · exact n46 o (by omega) (by omega) w
    · exact lk w
  have e4 : H (4 + o) s = 3 := by
    rw [c2]
    unfold chA
    rw [if_neg (fun w => ne w.symm), if_neg]
    rintro (w | w | w)
    · exact n46 o (by omega) (by omega) w
    · exact n46 s (by omega) (by omega) w
    · exact lk ((likA_comm ok.1.2.1.1).mp w)
  have n4 : ¬ (4 + o : Int) = 4 + s := by omega
  have h := call_runP 12 vm_X1_isCure h
  have h := xw_top (hd := [42, 125]) 9 xD6_ok xc_X1_isCure xa_X1_isCure (t := 0) rfl h
  simp (maxDischargeDepth := 12) -implicitDefEqProofs [vb_X1_isCure_0, vb_X1_isCure_42, vb_X1_isCure_98, vb_X1_isCure_119, vb_X1_isCure_125, vb_X1_isCure_159, vb_X1_isCure_160, xI_0, xI_1, xI_2, xI_3, xI_4, xI_5, xI_6, xI_7, xI_36, xI_37, xI_38, xI_39, xI_46, xI_49, xI_51, xI_52, xI_53, xI_60, xI_61, xI_62, xw_X1_isCure_0, xw_X1_isCure_42, xw_X1_isCure_98, xw_X1_isCure_119, xw_X1_isCure_125, xw_X1_isCure_159, xw_X1_isCure_160, zw_lit, xB_c, xB_s, xB_n, i1_c, j2_c, k1_c, jJ_e, xlg, xls, xla, xpd, ppush, zw_m1, zw_m2, zw_m3, gf_0_0, gf_1_0, gf_1_1, gf_1_2, gf_1_3, gf_1_7, gf_1_14, gf_5_3, tg_0_0, tg_1_0, tg_1_1, tg_1_14, tg_1_2, tg_1_3, tg_1_7, tg_5_3, gv_1_0, gv_1_1, gv_1_2, gv_1_3, gv_1_7, gv_1_14, xD1, xD2, xD3, xD4, xD5, xD6, xb1_0] at h
  obtain ⟨r, X0, ⟨rfl, cq, g4, gg, gb, gc⟩, g⟩ := xc_use h (sp_c_gaps k S n H hR hM hk)
  have ld := cq.1.2.2.1
  have kq := ld.1.1 k hk.1 (by omega)
  have kin := KL_in kq
  have g3 : ∀ Y : PH, gv Y (X0 47 k) 3 = Y (X0 47 k) 3 := (KL_f kq).2.2.2.2.1
  have vk := (cq.1.1.1.2.2.1 k hk.1 hk.2).2.2.2
  have x3 : X0 (4 + s) o = 3 ∧ X0 (4 + o) s = 3 := by
    have cm := cq.1.1.1.2.2.2.1
    rw [cm s o (by omega) (by omega) (by omega) (by omega), cm o s (by omega) (by omega) (by omega) (by omega), ← c1, ← c2]
    exact ⟨e3, e4⟩
  simp (maxDischargeDepth := 12) -implicitDefEqProofs [vb_X1_isCure_0, vb_X1_isCure_42, vb_X1_isCure_98, vb_X1_isCure_119, vb_X1_isCure_125, vb_X1_isCure_159, vb_X1_isCure_160, xI_0, xI_1, xI_2, xI_3, xI_4, xI_5, xI_6, xI_7, xI_36, xI_37, xI_38, xI_39, xI_46, xI_49, xI_51, xI_52, xI_53, xI_60, xI_61, xI_62, xw_X1_isCure_0, xw_X1_isCure_42, xw_X1_isCure_98, xw_X1_isCure_119, xw_X1_isCure_125, xw_X1_isCure_159, xw_X1_isCure_160, zw_lit, xB_c, xB_s, xB_n, i1_c, j2_c, k1_c, jJ_e, xlg, xls, xla, xpd, ppush, zw_m1, zw_m2, zw_m3, gf_0_0, gf_1_0, gf_1_1, gf_1_2, gf_1_3, gf_1_7, gf_1_14, gf_5_3, tg_0_0, tg_1_0, tg_1_1, tg_1_14, tg_1_2, tg_1_3, tg_1_7, tg_5_3, gv_1_0, gv_1_1, gv_1_2, gv_1_3, gv_1_7, gv_1_14, xD1, xD2, xD3, xD4, xD5, xD6, xb1_0, gv47, g3] at g
  obtain ⟨r, X, ⟨⟨u1, rfl, w1⟩, rfl⟩, g1⟩ := xc_use g (sp_X8_has (X0 (X0 47 k) 3) _ o _ X0 vk)
  simp (maxDischargeDepth := 12) -implicitDefEqProofs [vb_X1_isCure_0, vb_X1_isCure_42, vb_X1_isCure_98, vb_X1_isCure_119, vb_X1_isCure_125, vb_X1_isCure_159, vb_X1_isCure_160, xI_0, xI_1, xI_2, xI_3, xI_4, xI_5, xI_6, xI_7, xI_36, xI_37, xI_38, xI_39, xI_46, xI_49, xI_51, xI_52, xI_53, xI_60, xI_61, xI_62, xw_X1_isCure_0, xw_X1_isCure_42, xw_X1_isCure_98, xw_X1_isCure_119, xw_X1_isCure_125, xw_X1_isCure_159, xw_X1_isCure_160, zw_lit, xB_c, xB_s, xB_n, i1_c, j2_c, k1_c, jJ_e, xlg, xls, xla, xpd, ppush, zw_m1, zw_m2, zw_m3, gf_0_0, gf_1_0, gf_1_1, gf_1_2, gf_1_3, gf_1_7, gf_1_14, gf_5_3, tg_0_0, tg_1_0, tg_1_1, tg_1_14, tg_1_2, tg_1_3, tg_1_7, tg_5_3, gv_1_0, gv_1_1, gv_1_2, gv_1_3, gv_1_7, gv_1_14, xD1, xD2, xD3, xD4, xD5, xD6, xb1_0] at g1
  obtain ⟨r, H2, ⟨rfl, rfl⟩, g2⟩ := xc_use g1 (sp_X8_setCost s o 1 _ (by omega) (by omega))
  simp (maxDischargeDepth := 12) -implicitDefEqProofs [vb_X1_isCure_0, vb_X1_isCure_42, vb_X1_isCure_98, vb_X1_isCure_119, vb_X1_isCure_125, vb_X1_isCure_159, vb_X1_isCure_160, xI_0, xI_1, xI_2, xI_3, xI_4, xI_5, xI_6, xI_7, xI_36, xI_37, xI_38, xI_39, xI_46, xI_49, xI_51, xI_52, xI_53, xI_60, xI_61, xI_62, xw_X1_isCure_0, xw_X1_isCure_42, xw_X1_isCure_98, xw_X1_isCure_119, xw_X1_isCure_125, xw_X1_isCure_159, xw_X1_isCure_160, zw_lit, xB_c, xB_s, xB_n, i1_c, j2_c, k1_c, jJ_e, xlg, xls, xla, xpd, ppush, zw_m1, zw_m2, zw_m3, gf_0_0, gf_1_0, gf_1_1, gf_1_2, gf_1_3, gf_1_7, gf_1_14, gf_5_3, tg_0_0, tg_1_0, tg_1_1, tg_1_14, tg_1_2, tg_1_3, tg_1_7, tg_5_3, gv_1_0, gv_1_1, gv_1_2, gv_1_3, gv_1_7, gv_1_14, xD1, xD2, xD3, xD4, xD5, xD6, xb1_0] at g2
  obtain ⟨m, hm, g2⟩ := g2
  obtain ⟨H3, b', ch', x', y', j1, j54, jc, m2, hm2, j2⟩ := lp_iscA k s o _ _ u1 (S 0) S n X rfl cq.1 h8 hk vk (by omega) (by omega) gg ⟨s1, s2⟩ s3 w1 m 0 0 _ _ _ (by omega) a0.1 (fun c _ _ _ => rfl) (fun x x0 x1 => by omega) (Or.inl ⟨rfl, fun x x0 x1 => by omega⟩) g2
  have j2 := xw_top (hd := [42, 125]) 9 xD6_ok xc_X1_isCure xa_X1_isCure (t := 125) rfl j2
  simp (maxDischargeDepth := 12) -implicitDefEqProofs [vb_X1_isCure_0, vb_X1_isCure_42, vb_X1_isCure_98, vb_X1_isCure_119, vb_X1_isCure_125, vb_X1_isCure_159, vb_X1_isCure_160, xI_0, xI_1, xI_2, xI_3, xI_4, xI_5, xI_6, xI_7, xI_36, xI_37, xI_38, xI_39, xI_46, xI_49, xI_51, xI_52, xI_53, xI_60, xI_61, xI_62, xw_X1_isCure_0, xw_X1_isCure_42, xw_X1_isCure_98, xw_X1_isCure_119, xw_X1_isCure_125, xw_X1_isCure_159, xw_X1_isCure_160, zw_lit, xB_c, xB_s, xB_n, i1_c, j2_c, k1_c, jJ_e, xlg, xls, xla, xpd, ppush, zw_m1, zw_m2, zw_m3, gf_0_0, gf_1_0, gf_1_1, gf_1_2, gf_1_3, gf_1_7, gf_1_14, gf_5_3, tg_0_0, tg_1_0, tg_1_1, tg_1_14, tg_1_2, tg_1_3, tg_1_7, tg_5_3, gv_1_0, gv_1_1, gv_1_2, gv_1_3, gv_1_7, gv_1_14, xD1, xD2, xD3, xD4, xD5, xD6, xb1_0] at j2
  obtain ⟨r, H4, ⟨rfl, rfl⟩, g5⟩ := xc_use j2 (sp_X8_setCost s o 3 H3 (by omega) (by omega))
  have back : ∀ c, ¬ c = 44 → ¬ c = 45 → ¬ c = 54 → pup (pup H3 (4 + s) o 3) (4 + o) s 3 c = X c := fun c d1 d2 d3 => by
    funext i
    by_cases p1 : c = 4 + o
    · rw [p1, xp_at]
      by_cases p2 : i = s
      · rw [if_pos p2, p2, x3.2]
      · rw [if_neg p2, xp_ne n4, j1 (4 + o) (by omega) (by omega) (by omega), xp_at, if_neg p2, xp_ne n4]
    · rw [xp_ne p1]
      by_cases p3 : c = 4 + s
      · rw [p3, xp_at]
        by_cases p2 : i = o
        · rw [if_pos p2, p2, x3.1]
        · rw [if_neg p2, j1 _ (by omega) (by omega) (by omega), xp_ne (by omega), xp_at, if_neg p2]
      · rw [xp_ne p3, j1 c d1 d2 d3, xp_ne p1, xp_ne p3]
  have c5 := CQ_54 cq back
  have b54 : pup (pup H3 (4 + s) o 3) (4 + o) s 3 54 = H3 54 := by rw [xp_ne (by omega), xp_ne (by omega)]
  simp (maxDischargeDepth := 12) -implicitDefEqProofs [vb_X1_isCure_0, vb_X1_isCure_42, vb_X1_isCure_98, vb_X1_isCure_119, vb_X1_isCure_125, vb_X1_isCure_159, vb_X1_isCure_160, xI_0, xI_1, xI_2, xI_3, xI_4, xI_5, xI_6, xI_7, xI_36, xI_37, xI_38, xI_39, xI_46, xI_49, xI_51, xI_52, xI_53, xI_60, xI_61, xI_62, xw_X1_isCure_0, xw_X1_isCure_42, xw_X1_isCure_98, xw_X1_isCure_119, xw_X1_isCure_125, xw_X1_isCure_159, xw_X1_isCure_160, zw_lit, xB_c, xB_s, xB_n, i1_c, j2_c, k1_c, jJ_e, xlg, xls, xla, xpd, ppush, zw_m1, zw_m2, zw_m3, gf_0_0, gf_1_0, gf_1_1, gf_1_2, gf_1_3, gf_1_7, gf_1_14, gf_5_3, tg_0_0, tg_1_0, tg_1_1, tg_1_14, tg_1_2, tg_1_3, tg_1_7, tg_5_3, gv_1_0, gv_1_1, gv_1_2, gv_1_3, gv_1_7, gv_1_14, xD1, xD2, xD3, xD4, xD5, xD6, xb1_0] at g5
  have sN := cq.1.1.1.1
  have s3' := sN.2.2.2.1
  have e12 : ∀ Y : PH, (∀ c, ¬ c = 44 → ¬ c = 45 → ¬ c = 54 → Y c = X c) → Y 1 2 = S 0 0 ∧ Y 1 7 = S 0 3 := fun Y e => by
    rw [e 1 (by decide) (by decide) (by decide)]
    exact ⟨sN.1.symm, s3'.symm⟩
  obtain ⟨e12, e17⟩ := e12 _ back
  have o3 := ok.2.2.1.1
  have er : rdM (pup (pup H3 (4 + s) o 3) (4 + o) s 3 54) (pup (pup H3 (4 + s) o 3) (4 + o) s 3 1 2) (pup (pup H3 (4 + s) o 3) (4 + o) s 3 1 7) = cuM (S 0) k (ocF s) (ocF o) := by
    rw [b54, e12, e17]
    unfold cuM rdM
    rw [rbF_eq _ _ _ (fun x x0 x1 => j54 x x0 (by omega))]
  rcases jc with ⟨j0, jl⟩ | j0
  · have ev : ¬ 0 ≤ cuM (S 0) k (ocF s) (ocF o) := by
      have e : cuM (S 0) k (ocF s) (ocF o) = rdL (S 0) k := by
        unfold cuM
        exact rdM_l (fun x x0 x1 => jl x x0 x1)
      omega
    rw [j0] at g5
    simp (maxDischargeDepth := 12) -implicitDefEqProofs [vb_X1_isCure_0, vb_X1_isCure_42, vb_X1_isCure_98, vb_X1_isCure_119, vb_X1_isCure_125, vb_X1_isCure_159, vb_X1_isCure_160, xI_0, xI_1, xI_2, xI_3, xI_4, xI_5, xI_6, xI_7, xI_36, xI_37, xI_38, xI_39, xI_46, xI_49, xI_51, xI_52, xI_53, xI_60, xI_61, xI_62, xw_X1_isCure_0, xw_X1_isCure_42, xw_X1_isCure_98, xw_X1_isCure_119, xw_X1_isCure_125, xw_X1_isCure_159, xw_X1_isCure_160, zw_lit, xB_c, xB_s, xB_n, i1_c, j2_c, k1_c, jJ_e, xlg, xls, xla, xpd, ppush, zw_m1, zw_m2, zw_m3, gf_0_0, gf_1_0, gf_1_1, gf_1_2, gf_1_3, gf_1_7, gf_1_14, gf_5_3, tg_0_0, tg_1_0, tg_1_1, tg_1_14, tg_1_2, tg_1_3, tg_1_7, tg_5_3, gv_1_0, gv_1_1, gv_1_2, gv_1_3, gv_1_7, gv_1_14, xD1, xD2, xD3, xD4, xD5, xD6, xb1_0] at g5
    exact ⟨_, _, g5, by rw [if_neg ev], c5⟩
  · rw [j0] at g5
    simp (maxDischargeDepth := 12) -implicitDefEqProofs [vb_X1_isCure_0, vb_X1_isCure_42, vb_X1_isCure_98, vb_X1_isCure_119, vb_X1_isCure_125, vb_X1_isCure_159, vb_X1_isCure_160, xI_0, xI_1, xI_2, xI_3, xI_4, xI_5, xI_6, xI_7, xI_36, xI_37, xI_38, xI_39, xI_46, xI_49, xI_51, xI_52, xI_53, xI_60, xI_61, xI_62, xw_X1_isCure_0, xw_X1_isCure_42, xw_X1_isCure_98, xw_X1_isCure_119, xw_X1_isCure_125, xw_X1_isCure_159, xw_X1_isCure_160, zw_lit, xB_c, xB_s, xB_n, i1_c, j2_c, k1_c, jJ_e, xlg, xls, xla, xpd, ppush, zw_m1, zw_m2, zw_m3, gf_0_0, gf_1_0, gf_1_1, gf_1_2, gf_1_3, gf_1_7, gf_1_14, gf_5_3, tg_0_0, tg_1_0, tg_1_1, tg_1_14, tg_1_2, tg_1_3, tg_1_7, tg_5_3, gv_1_0, gv_1_1, gv_1_2, gv_1_3, gv_1_7, gv_1_14, xD1, xD2, xD3, xD4, xD5, xD6, xb1_0] at g5
    obtain ⟨r, H5, ⟨rfl, rfl⟩, g6⟩ := xc_use g5 (sp_X1_readBy 54 _ _ (by decide) (by rw [e12]; omega) (by rw [e17]; omega))
    rw [er] at g6
    by_cases q : 0 ≤ cuM (S 0) k (ocF s) (ocF o)
    · have q' : ¬ cuM (S 0) k (ocF s) (ocF o) < 0 := by omega
      simp (maxDischargeDepth := 12) -implicitDefEqProofs [vb_X1_isCure_0, vb_X1_isCure_42, vb_X1_isCure_98, vb_X1_isCure_119, vb_X1_isCure_125, vb_X1_isCure_159, vb_X1_isCure_160, xI_0, xI_1, xI_2, xI_3, xI_4, xI_5, xI_6, xI_7, xI_36, xI_37, xI_38, xI_39, xI_46, xI_49, xI_51, xI_52, xI_53, xI_60, xI_61, xI_62, xw_X1_isCure_0, xw_X1_isCure_42, xw_X1_isCure_98, xw_X1_isCure_119, xw_X1_isCure_125, xw_X1_isCure_159, xw_X1_isCure_160, zw_lit, xB_c, xB_s, xB_n, i1_c, j2_c, k1_c, jJ_e, xlg, xls, xla, xpd, ppush, zw_m1, zw_m2, zw_m3, gf_0_0, gf_1_0, gf_1_1, gf_1_2, gf_1_3, gf_1_7, gf_1_14, gf_5_3, tg_0_0, tg_1_0, tg_1_1, tg_1_14, tg_1_2, tg_1_3, tg_1_7, tg_5_3, gv_1_0, gv_1_1, gv_1_2, gv_1_3, gv_1_7, gv_1_14, xD1, xD2, xD3, xD4, xD5, xD6, xb1_0, q, q'] at g6
      exact ⟨_, _, g6, by rw [if_pos q], c5⟩
    · have q' : cuM (S 0) k (ocF s) (ocF o) < 0 := by omega
      simp (maxDischargeDepth := 12) -implicitDefEqProofs [vb_X1_isCure_0, vb_X1_isCure_42, vb_X1_isCure_98, vb_X1_isCure_119, vb_X1_isCure_125, vb_X1_isCure_159, vb_X1_isCure_160, xI_0, xI_1, xI_2, xI_3, xI_4, xI_5, xI_6, xI_7, xI_36, xI_37, xI_38, xI_39, xI_46, xI_49, xI_51, xI_52, xI_53, xI_60, xI_61, xI_62, xw_X1_isCure_0, xw_X1_isCure_42, xw_X1_isCure_98, xw_X1_isCure_119, xw_X1_isCure_125, xw_X1_isCure_159, xw_X1_isCure_160, zw_lit, xB_c, xB_s, xB_n, i1_c, j2_c, k1_c, jJ_e, xlg, xls, xla, xpd, ppush, zw_m1, zw_m2, zw_m3, gf_0_0, gf_1_0, gf_1_1, gf_1_2, gf_1_3, gf_1_7, gf_1_14, gf_5_3, tg_0_0, tg_1_0, tg_1_1, tg_1_14, tg_1_2, tg_1_3, tg_1_7, tg_5_3, gv_1_0, gv_1_1, gv_1_2, gv_1_3, gv_1_7, gv_1_14, xD1, xD2, xD3, xD4, xD5, xD6, xb1_0, q, q'] at g6
      exact ⟨_, _, g6, by rw [if_neg q], c5⟩
set_option maxRecDepth 100000 in
theorem lp_cfA (k s : Int) (S : Int → Int → Int) (N : Int) (H0 : PH) (h8 : S 0 1 < 8) (hk : 0 ≤ k ∧ k < S 0 2) (hrd : rdL (S 0) k < 0) (hs : 1 ≤ s ∧ s ≤ 36) {E : xE} {res : xR} : ∀ (n : Nat) (o : Int) (H : PH), 1 ≤ o → o ≤ 37 → CQ H0 H S N → RUN E res n kd_X1_cureFor (zget kd_X1_cureFor 2) 2 [1, k, s, o] [] H → ∃ H', CQ H0 H' S N ∧ REPR E res (some (0, cfF (S 0) k (ocF s) (37 - o).toNat o)) H' := by
  intro n
  induction n using Nat.strongRecOn with
  | _ n ih =>
    intro o H o1 o37 hQ h
    have z1 : zw (o + 1) = o + 1 := zw_lit (by omega) (by omega)
    by_cases c : o ≤ 36
    · have c' : ¬ 36 < o := by omega
      rw [show (37 - o).toNat = (37 - (o + 1)).toNat + 1 by omega]
      unfold cfF
      by_cases e : o = s
      · have e' : (o = s) = True := eq_true e
        have nc : ¬ cfC (S 0) k (ocF s) o := fun w => w.1 (by rw [e])
        rw [if_neg nc]
        have h := xw_top (hd := [2]) 6 xD6_ok xc_X1_cureFor xa_X1_cureFor (t := 2) rfl h
        simp (maxDischargeDepth := 12) -implicitDefEqProofs [vb_X1_cureFor_0, vb_X1_cureFor_2, vb_X1_cureFor_37, vb_X1_cureFor_43, xI_0, xI_1, xI_3, xI_6, xI_7, xI_8, xI_36, xI_37, xI_38, xI_43, xI_47, xI_49, xI_61, xI_62, xw_X1_cureFor_0, xw_X1_cureFor_2, xw_X1_cureFor_37, xw_X1_cureFor_43, zw_lit, xB_c, xB_s, xB_n, i1_c, j2_c, k1_c, jJ_e, xlg, xls, xla, xpd, ppush, zw_m1, zw_m2, zw_m3, gf_1_0, tg_1_0, gv_1_0, xD1, xD2, xD3, xD4, xD5, xD6, xb1_0, c, c', e', z1] at h
        obtain ⟨m, hm, h⟩ := h
        exact ih m hm (o + 1) H (by omega) (by omega) hQ h
      · have ne : ¬ ocF o = ocF s := fun w => e (ocF_inj (by omega) (by omega) w)
        have h := xw_top (hd := [2]) 6 xD6_ok xc_X1_cureFor xa_X1_cureFor (t := 2) rfl h
        simp (maxDischargeDepth := 12) -implicitDefEqProofs [vb_X1_cureFor_0, vb_X1_cureFor_2, vb_X1_cureFor_37, vb_X1_cureFor_43, xI_0, xI_1, xI_3, xI_6, xI_7, xI_8, xI_36, xI_37, xI_38, xI_43, xI_47, xI_49, xI_61, xI_62, xw_X1_cureFor_0, xw_X1_cureFor_2, xw_X1_cureFor_37, xw_X1_cureFor_43, zw_lit, xB_c, xB_s, xB_n, i1_c, j2_c, k1_c, jJ_e, xlg, xls, xla, xpd, ppush, zw_m1, zw_m2, zw_m3, gf_1_0, tg_1_0, gv_1_0, xD1, xD2, xD3, xD4, xD5, xD6, xb1_0, c, c', e] at h
        obtain ⟨r1, H1, ⟨rfl, rfl⟩, g⟩ := xc_use h (sp_X8_areLike s o H (by omega))
        have c1 := hQ.1.1.1.2.2.2.1 s o (by omega) (by omega) (by omega) (by omega)
        by_cases q : H1 (4 + s) o = 1
        · have lk : likA (S 0) (ocF s) (ocF o) = true := by
            rw [c1] at q
            unfold chA at q
            rw [if_neg (fun w => ne w.symm)] at q
            by_cases w : ocF s = 46 ∨ ocF o = 46 ∨ likA (S 0) (ocF s) (ocF o) = true
            · rcases w with w | w | w
              · unfold ocF at w
                rw [if_neg (by omega)] at w
                split at w <;> omega
              · unfold ocF at w
                rw [if_neg (by omega)] at w
                split at w <;> omega
              · exact w
            · rw [if_neg w] at q
              omega
          have nc : ¬ cfC (S 0) k (ocF s) o := fun w => w.2.1 lk
          rw [if_neg nc]
          simp (maxDischargeDepth := 12) -implicitDefEqProofs [vb_X1_cureFor_0, vb_X1_cureFor_2, vb_X1_cureFor_37, vb_X1_cureFor_43, xI_0, xI_1, xI_3, xI_6, xI_7, xI_8, xI_36, xI_37, xI_38, xI_43, xI_47, xI_49, xI_61, xI_62, xw_X1_cureFor_0, xw_X1_cureFor_2, xw_X1_cureFor_37, xw_X1_cureFor_43, zw_lit, xB_c, xB_s, xB_n, i1_c, j2_c, k1_c, jJ_e, xlg, xls, xla, xpd, ppush, zw_m1, zw_m2, zw_m3, gf_1_0, tg_1_0, gv_1_0, xD1, xD2, xD3, xD4, xD5, xD6, xb1_0, q, z1] at g
          obtain ⟨m, hm, g⟩ := g
          exact ih m hm (o + 1) H1 (by omega) (by omega) hQ g
        · have lk : ¬ likA (S 0) (ocF s) (ocF o) = true := fun w => q (by
            rw [c1]
            unfold chA
            rw [if_neg (fun w => ne w.symm), if_pos (Or.inr (Or.inr w))])
          simp (maxDischargeDepth := 12) -implicitDefEqProofs [vb_X1_cureFor_0, vb_X1_cureFor_2, vb_X1_cureFor_37, vb_X1_cureFor_43, xI_0, xI_1, xI_3, xI_6, xI_7, xI_8, xI_36, xI_37, xI_38, xI_43, xI_47, xI_49, xI_61, xI_62, xw_X1_cureFor_0, xw_X1_cureFor_2, xw_X1_cureFor_37, xw_X1_cureFor_43, zw_lit, xB_c, xB_s, xB_n, i1_c, j2_c, k1_c, jJ_e, xlg, xls, xla, xpd, ppush, zw_m1, zw_m2, zw_m3, gf_1_0, tg_1_0, gv_1_0, xD1, xD2, xD3, xD4, xD5, xD6, xb1_0, q] at g
          obtain ⟨r2, H2, ⟨rfl, q2⟩, g2⟩ := xc_use g (sp_c_isCure k s o S N H1 hQ.1 hQ.2.1 h8 hk hrd ⟨⟨hs, by omega⟩, e⟩ q)
          by_cases u : 0 ≤ cuM (S 0) k (ocF s) (ocF o)
          · rw [if_pos u] at g2
            rw [if_pos ⟨ne, lk, u⟩]
            simp (maxDischargeDepth := 12) -implicitDefEqProofs [vb_X1_cureFor_0, vb_X1_cureFor_2, vb_X1_cureFor_37, vb_X1_cureFor_43, xI_0, xI_1, xI_3, xI_6, xI_7, xI_8, xI_36, xI_37, xI_38, xI_43, xI_47, xI_49, xI_61, xI_62, xw_X1_cureFor_0, xw_X1_cureFor_2, xw_X1_cureFor_37, xw_X1_cureFor_43, zw_lit, xB_c, xB_s, xB_n, i1_c, j2_c, k1_c, jJ_e, xlg, xls, xla, xpd, ppush, zw_m1, zw_m2, zw_m3, gf_1_0, tg_1_0, gv_1_0, xD1, xD2, xD3, xD4, xD5, xD6, xb1_0] at g2
            exact ⟨H2, CQ_trans hQ q2, g2⟩
          · rw [if_neg u] at g2
            rw [if_neg (fun w => u w.2.2)]
            simp (maxDischargeDepth := 12) -implicitDefEqProofs [vb_X1_cureFor_0, vb_X1_cureFor_2, vb_X1_cureFor_37, vb_X1_cureFor_43, xI_0, xI_1, xI_3, xI_6, xI_7, xI_8, xI_36, xI_37, xI_38, xI_43, xI_47, xI_49, xI_61, xI_62, xw_X1_cureFor_0, xw_X1_cureFor_2, xw_X1_cureFor_37, xw_X1_cureFor_43, zw_lit, xB_c, xB_s, xB_n, i1_c, j2_c, k1_c, jJ_e, xlg, xls, xla, xpd, ppush, zw_m1, zw_m2, zw_m3, gf_1_0, tg_1_0, gv_1_0, xD1, xD2, xD3, xD4, xD5, xD6, xb1_0, z1] at g2
            obtain ⟨m, hm, g2⟩ := g2
            exact ih m hm (o + 1) H2 (by omega) (by omega) (CQ_trans hQ q2) g2
    · have c' : 36 < o := by omega
      rw [show (37 - o).toNat = 0 by omega]
      have h := xw_top (hd := [2]) 6 xD6_ok xc_X1_cureFor xa_X1_cureFor (t := 2) rfl h
      simp (maxDischargeDepth := 12) -implicitDefEqProofs [vb_X1_cureFor_0, vb_X1_cureFor_2, vb_X1_cureFor_37, vb_X1_cureFor_43, xI_0, xI_1, xI_3, xI_6, xI_7, xI_8, xI_36, xI_37, xI_38, xI_43, xI_47, xI_49, xI_61, xI_62, xw_X1_cureFor_0, xw_X1_cureFor_2, xw_X1_cureFor_37, xw_X1_cureFor_43, zw_lit, xB_c, xB_s, xB_n, i1_c, j2_c, k1_c, jJ_e, xlg, xls, xla, xpd, ppush, zw_m1, zw_m2, zw_m3, gf_1_0, tg_1_0, gv_1_0, xD1, xD2, xD3, xD4, xD5, xD6, xb1_0, c, c'] at h
      exact ⟨H, hQ, h⟩
set_option maxRecDepth 100000 in
theorem sp_c_cureFor (k s : Int) (S : Int → Int → Int) (n : Int) (H : PH) (hR : RC H S n) (hM : MCC (S 0) H) (h8 : S 0 1 < 8) (hk : 0 ≤ k ∧ k < S 0 2) (hrd : rdL (S 0) k < 0) (hs : 1 ≤ s ∧ s ≤ 36) : SPEC 18 [(2, 1), (0, k), (0, s)] H (fun r H' => r = some (0, cfF (S 0) k (ocF s) 36 1) ∧ CQ H H' S n) := by
  intro E n' res h
  have h := call_runP 4 vm_X1_cureFor h
  have h := xw_top (hd := [2]) 6 xD6_ok xc_X1_cureFor xa_X1_cureFor (t := 0) rfl h
  simp (maxDischargeDepth := 12) -implicitDefEqProofs [vb_X1_cureFor_0, vb_X1_cureFor_2, vb_X1_cureFor_37, vb_X1_cureFor_43, xI_0, xI_1, xI_3, xI_6, xI_7, xI_8, xI_36, xI_37, xI_38, xI_43, xI_47, xI_49, xI_61, xI_62, xw_X1_cureFor_0, xw_X1_cureFor_2, xw_X1_cureFor_37, xw_X1_cureFor_43, zw_lit, xB_c, xB_s, xB_n, i1_c, j2_c, k1_c, jJ_e, xlg, xls, xla, xpd, ppush, zw_m1, zw_m2, zw_m3, gf_1_0, tg_1_0, gv_1_0, xD1, xD2, xD3, xD4, xD5, xD6, xb1_0] at h
  obtain ⟨m, hm, h⟩ := h
  obtain ⟨H1, q, g⟩ := lp_cfA k s S n H h8 hk hrd hs m 1 H (by omega) (by omega) (CQ_refl hR hM) h
  exact ⟨_, H1, g, rfl, q⟩
set_option maxRecDepth 100000 in
theorem lp_cureA (k m : Int) (S : Int → Int → Int) (N : Int) (H0 : PH) (h8 : S 0 1 < 8) (hk : 0 ≤ k ∧ k < S 0 2) (hrd : rdL (S 0) k < 0) (vm : VM m (S 0 (404 + 12 * k + 3)) (fun i => S 0 (404 + 12 * k + 4 + i))) {E : xE} {res : xR} : ∀ (n : Nat) (i x y : Int) (H : PH), 0 ≤ i → i ≤ S 0 (404 + 12 * k + 3) → CQ H0 H S N → RUN E res n kd_X11_cure (zget kd_X11_cure 60) 60 [0, k, m, 0, i, x, y] [] H → ∃ H', CQ H0 H' S N ∧ REPR E res (some (0, cuF (S 0) k (S 0 (404 + 12 * k + 3) - i).toNat i)) H' := by
  have sz := vm.1
  have n8 := vm.2.1
  intro n
  induction n using Nat.strongRecOn with
  | _ n ih =>
    intro i x y H i0 i1 hQ h
    have z1 : zw (i + 1) = i + 1 := zw_lit (by omega) (by omega)
    by_cases c : i < S 0 (404 + 12 * k + 3)
    · have c' : ¬ S 0 (404 + 12 * k + 3) ≤ i := by omega
      obtain ⟨v1, v2, v3⟩ := vm.2.2.1 i i0 c
      have v3 : S 0 (404 + 12 * k + 4 + i) = ocF (sgf m i) := v3
      rw [show (S 0 (404 + 12 * k + 3) - i).toNat = (S 0 (404 + 12 * k + 3) - (i + 1)).toNat + 1 by omega]
      unfold cuF
      by_cases w : sgf m i = 37
      · have e46 : S 0 (404 + 12 * k + 4 + i) = 46 := by rw [v3, w]; rfl
        rw [if_neg (fun u => u.1 e46)]
        have w' : (sgf m i = 37) = True := eq_true w
        have h := xw_top (hd := [60]) 10 xD6_ok xc_X11_cure xa_X11_cure (t := 60) rfl h
        simp (maxDischargeDepth := 12) -implicitDefEqProofs [vb_X11_cure_0, vb_X11_cure_42, vb_X11_cure_44, vb_X11_cure_60, vb_X11_cure_88, vb_X11_cure_98, vb_X11_cure_121, vb_X11_cure_127, xI_0, xI_1, xI_2, xI_3, xI_5, xI_6, xI_7, xI_8, xI_9, xI_14, xI_16, xI_36, xI_37, xI_40, xI_44, xI_45, xI_46, xI_49, xI_51, xI_53, xI_60, xI_61, xI_62, xw_X11_cure_0, xw_X11_cure_42, xw_X11_cure_44, xw_X11_cure_60, xw_X11_cure_88, xw_X11_cure_98, xw_X11_cure_121, xw_X11_cure_127, zw_lit, xB_c, xB_s, xB_n, i1_c, j2_c, k1_c, jJ_e, xlg, xls, xla, xpd, ppush, zw_m1, zw_m2, zw_m3, gf_1_0, gf_1_3, gf_5_3, gf_8_3, gf_9_2, gf_11_0, gf_11_2, tg_11_0, tg_11_2, tg_1_0, tg_1_3, tg_5_3, tg_8_3, tg_9_2, gv_1_0, gv_1_3, gv_2_3, gv_215_2, gv_0_0, gv_0_2, xD1, xD2, xD3, xD4, xD5, xD6, xb1_0, sz, c, c', w, z1] at h
        obtain ⟨j, hj, h⟩ := h
        exact ih j hj (i + 1) _ _ H (by omega) (by omega) hQ h
      · have s36 : 1 ≤ sgf m i ∧ sgf m i ≤ 36 := by omega
        have n46 : ¬ S 0 (404 + 12 * k + 4 + i) = 46 := by
          rw [v3]
          unfold ocF
          rw [if_neg w]
          split <;> omega
        have h := xw_top (hd := [60]) 10 xD6_ok xc_X11_cure xa_X11_cure (t := 60) rfl h
        simp (maxDischargeDepth := 12) -implicitDefEqProofs [vb_X11_cure_0, vb_X11_cure_42, vb_X11_cure_44, vb_X11_cure_60, vb_X11_cure_88, vb_X11_cure_98, vb_X11_cure_121, vb_X11_cure_127, xI_0, xI_1, xI_2, xI_3, xI_5, xI_6, xI_7, xI_8, xI_9, xI_14, xI_16, xI_36, xI_37, xI_40, xI_44, xI_45, xI_46, xI_49, xI_51, xI_53, xI_60, xI_61, xI_62, xw_X11_cure_0, xw_X11_cure_42, xw_X11_cure_44, xw_X11_cure_60, xw_X11_cure_88, xw_X11_cure_98, xw_X11_cure_121, xw_X11_cure_127, zw_lit, xB_c, xB_s, xB_n, i1_c, j2_c, k1_c, jJ_e, xlg, xls, xla, xpd, ppush, zw_m1, zw_m2, zw_m3, gf_1_0, gf_1_3, gf_5_3, gf_8_3, gf_9_2, gf_11_0, gf_11_2, tg_11_0, tg_11_2, tg_1_0, tg_1_3, tg_5_3, tg_8_3, tg_9_2, gv_1_0, gv_1_3, gv_2_3, gv_215_2, gv_0_0, gv_0_2, xD1, xD2, xD3, xD4, xD5, xD6, xb1_0, sz, c, c', w] at h
        obtain ⟨r1, H1, ⟨rfl, q1⟩, g⟩ := xc_use h (sp_c_cureFor k (sgf m i) S N H hQ.1 hQ.2.1 h8 hk hrd s36)
        rw [← v3] at g
        have ci := cfF_in (S 0) k (S 0 (404 + 12 * k + 4 + i)) 36 1 (by decide)
        by_cases u : cfF (S 0) k (S 0 (404 + 12 * k + 4 + i)) 36 1 = 0
        · rw [if_neg (fun w => w.2 u)]
          rw [u] at g
          simp (maxDischargeDepth := 12) -implicitDefEqProofs [vb_X11_cure_0, vb_X11_cure_42, vb_X11_cure_44, vb_X11_cure_60, vb_X11_cure_88, vb_X11_cure_98, vb_X11_cure_121, vb_X11_cure_127, xI_0, xI_1, xI_2, xI_3, xI_5, xI_6, xI_7, xI_8, xI_9, xI_14, xI_16, xI_36, xI_37, xI_40, xI_44, xI_45, xI_46, xI_49, xI_51, xI_53, xI_60, xI_61, xI_62, xw_X11_cure_0, xw_X11_cure_42, xw_X11_cure_44, xw_X11_cure_60, xw_X11_cure_88, xw_X11_cure_98, xw_X11_cure_121, xw_X11_cure_127, zw_lit, xB_c, xB_s, xB_n, i1_c, j2_c, k1_c, jJ_e, xlg, xls, xla, xpd, ppush, zw_m1, zw_m2, zw_m3, gf_1_0, gf_1_3, gf_5_3, gf_8_3, gf_9_2, gf_11_0, gf_11_2, tg_11_0, tg_11_2, tg_1_0, tg_1_3, tg_5_3, tg_8_3, tg_9_2, gv_1_0, gv_1_3, gv_2_3, gv_215_2, gv_0_0, gv_0_2, xD1, xD2, xD3, xD4, xD5, xD6, xb1_0, z1] at g
          obtain ⟨j, hj, g⟩ := g
          exact ih j hj (i + 1) _ _ H1 (by omega) (by omega) (CQ_trans hQ q1) g
        · rw [if_pos ⟨n46, u⟩]
          have oc1 := oc_eq (c := sgf m i) ⟨v1, v2⟩
          rw [if_neg w] at oc1
          have oc2 := oc_eq (c := cfF (S 0) k (S 0 (404 + 12 * k + 4 + i)) 36 1) (by omega)
          have b1 := ocF_in (c := sgf m i) ⟨v1, v2⟩
          have b2 := ocF_in (c := cfF (S 0) k (S 0 (404 + 12 * k + 4 + i)) 36 1) (by omega)
          generalize cfF (S 0) k (S 0 (404 + 12 * k + 4 + i)) 36 1 = cf at g u oc2 b2 ci ⊢
          rw [v3]
          have zz1 : zw (256 * ocF (sgf m i)) = 256 * ocF (sgf m i) := zw_lit (by omega) (by omega)
          have zz2 : zw (256 * ocF (sgf m i) + ocF cf) = 256 * ocF (sgf m i) + ocF cf := zw_lit (by omega) (by omega)
          simp (maxDischargeDepth := 12) -implicitDefEqProofs [vb_X11_cure_0, vb_X11_cure_42, vb_X11_cure_44, vb_X11_cure_60, vb_X11_cure_88, vb_X11_cure_98, vb_X11_cure_121, vb_X11_cure_127, xI_0, xI_1, xI_2, xI_3, xI_5, xI_6, xI_7, xI_8, xI_9, xI_14, xI_16, xI_36, xI_37, xI_40, xI_44, xI_45, xI_46, xI_49, xI_51, xI_53, xI_60, xI_61, xI_62, xw_X11_cure_0, xw_X11_cure_42, xw_X11_cure_44, xw_X11_cure_60, xw_X11_cure_88, xw_X11_cure_98, xw_X11_cure_121, xw_X11_cure_127, zw_lit, xB_c, xB_s, xB_n, i1_c, j2_c, k1_c, jJ_e, xlg, xls, xla, xpd, ppush, zw_m1, zw_m2, zw_m3, gf_1_0, gf_1_3, gf_5_3, gf_8_3, gf_9_2, gf_11_0, gf_11_2, tg_11_0, tg_11_2, tg_1_0, tg_1_3, tg_5_3, tg_8_3, tg_9_2, gv_1_0, gv_1_3, gv_2_3, gv_215_2, gv_0_0, gv_0_2, xD1, xD2, xD3, xD4, xD5, xD6, xb1_0, u, oc1, oc2, zz1, zz2] at g
          exact ⟨H1, CQ_trans hQ q1, g⟩
    · have c' : S 0 (404 + 12 * k + 3) ≤ i := by omega
      rw [show (S 0 (404 + 12 * k + 3) - i).toNat = 0 by omega]
      have h := xw_top (hd := [60]) 10 xD6_ok xc_X11_cure xa_X11_cure (t := 60) rfl h
      simp (maxDischargeDepth := 12) -implicitDefEqProofs [vb_X11_cure_0, vb_X11_cure_42, vb_X11_cure_44, vb_X11_cure_60, vb_X11_cure_88, vb_X11_cure_98, vb_X11_cure_121, vb_X11_cure_127, xI_0, xI_1, xI_2, xI_3, xI_5, xI_6, xI_7, xI_8, xI_9, xI_14, xI_16, xI_36, xI_37, xI_40, xI_44, xI_45, xI_46, xI_49, xI_51, xI_53, xI_60, xI_61, xI_62, xw_X11_cure_0, xw_X11_cure_42, xw_X11_cure_44, xw_X11_cure_60, xw_X11_cure_88, xw_X11_cure_98, xw_X11_cure_121, xw_X11_cure_127, zw_lit, xB_c, xB_s, xB_n, i1_c, j2_c, k1_c, jJ_e, xlg, xls, xla, xpd, ppush, zw_m1, zw_m2, zw_m3, gf_1_0, gf_1_3, gf_5_3, gf_8_3, gf_9_2, gf_11_0, gf_11_2, tg_11_0, tg_11_2, tg_1_0, tg_1_3, tg_5_3, tg_8_3, tg_9_2, gv_1_0, gv_1_3, gv_2_3, gv_215_2, gv_0_0, gv_0_2, xD1, xD2, xD3, xD4, xD5, xD6, xb1_0, sz, c, c'] at h
      exact ⟨H, hQ, h⟩
set_option maxRecDepth 100000 in
theorem sp_c_cure (k : Int) (S : Int → Int → Int) (n : Int) (H : PH) (hR : RC H S n) (hM : MCC (S 0) H) : SPEC 140 [(2, 0), (0, k)] H (fun r H' => r = some (0, cuQ (S 0) k) ∧ CQ H H' S n) := by
  intro E n' res h
  obtain ⟨e0, e2, z0, z2, a0, a2⟩ := RC_12 hR
  have h := call_runP 7 vm_X11_cure h
  have h := xw_top (hd := [60]) 10 xD6_ok xc_X11_cure xa_X11_cure (t := 0) rfl h
  simp (maxDischargeDepth := 12) -implicitDefEqProofs [vb_X11_cure_0, vb_X11_cure_42, vb_X11_cure_44, vb_X11_cure_60, vb_X11_cure_88, vb_X11_cure_98, vb_X11_cure_121, vb_X11_cure_127, xI_0, xI_1, xI_2, xI_3, xI_5, xI_6, xI_7, xI_8, xI_9, xI_14, xI_16, xI_36, xI_37, xI_40, xI_44, xI_45, xI_46, xI_49, xI_51, xI_53, xI_60, xI_61, xI_62, xw_X11_cure_0, xw_X11_cure_42, xw_X11_cure_44, xw_X11_cure_60, xw_X11_cure_88, xw_X11_cure_98, xw_X11_cure_121, xw_X11_cure_127, zw_lit, xB_c, xB_s, xB_n, i1_c, j2_c, k1_c, jJ_e, xlg, xls, xla, xpd, ppush, zw_m1, zw_m2, zw_m3, gf_1_0, gf_1_3, gf_5_3, gf_8_3, gf_9_2, gf_11_0, gf_11_2, tg_11_0, tg_11_2, tg_1_0, tg_1_3, tg_5_3, tg_8_3, tg_9_2, gv_1_0, gv_1_3, gv_2_3, gv_215_2, gv_0_0, gv_0_2, xD1, xD2, xD3, xD4, xD5, xD6, xb1_0] at h
  obtain ⟨r, H1, ⟨rfl, cq, t⟩, g⟩ := xc_use h (sp_c_refresh S n H hR hM)
  have e14 : H1 1 4 = S 0 2 := cq.1.1.1.1.2.2.1.symm
  have e23 : H1 2 3 = S 0 1 := cq.1.1.1.1.2.1.symm
  have zz : zw (H1 1 4 - 1) = H1 1 4 - 1 := zw_lit (by omega) (by omega)
  by_cases qk : 0 ≤ k ∧ k ≤ H1 1 4 - 1
  · have k0 := qk.1
    have k1 := qk.2
    have k2 : ¬ k < 0 := by omega
    have k3 : ¬ H1 1 4 - 1 < k := by omega
    have hk : 0 ≤ k ∧ k < S 0 2 := by omega
    have er := t.2.2.1 k k0 hk.2
    by_cases q : rdL (S 0) k < 0
    · have q' : ¬ 0 ≤ rdL (S 0) k := by omega
      by_cases h8 : S 0 1 < 8
      · have h8' : ¬ 8 ≤ S 0 1 := by omega
        have kq := cq.1.2.2.1.1.1 k k0 (by omega)
        have g3 : gv H1 (H1 47 k) 3 = H1 (H1 47 k) 3 := (KL_f kq).2.2.2.2.1 _
        have vk := (cq.1.1.1.2.2.1 k k0 hk.2).2.2.2
        simp (maxDischargeDepth := 12) -implicitDefEqProofs [vb_X11_cure_0, vb_X11_cure_42, vb_X11_cure_44, vb_X11_cure_60, vb_X11_cure_88, vb_X11_cure_98, vb_X11_cure_121, vb_X11_cure_127, xI_0, xI_1, xI_2, xI_3, xI_5, xI_6, xI_7, xI_8, xI_9, xI_14, xI_16, xI_36, xI_37, xI_40, xI_44, xI_45, xI_46, xI_49, xI_51, xI_53, xI_60, xI_61, xI_62, xw_X11_cure_0, xw_X11_cure_42, xw_X11_cure_44, xw_X11_cure_60, xw_X11_cure_88, xw_X11_cure_98, xw_X11_cure_121, xw_X11_cure_127, zw_lit, xB_c, xB_s, xB_n, i1_c, j2_c, k1_c, jJ_e, xlg, xls, xla, xpd, ppush, zw_m1, zw_m2, zw_m3, gf_1_0, gf_1_3, gf_5_3, gf_8_3, gf_9_2, gf_11_0, gf_11_2, tg_11_0, tg_11_2, tg_1_0, tg_1_3, tg_5_3, tg_8_3, tg_9_2, gv_1_0, gv_1_3, gv_2_3, gv_215_2, gv_0_0, gv_0_2, xD1, xD2, xD3, xD4, xD5, xD6, xb1_0, zz, k0, k1, k2, k3, er, q, q', e23, h8, h8', gv47, g3] at g
        obtain ⟨m, hm, g⟩ := g
        obtain ⟨H2, q2, g⟩ := lp_cureA k _ S n H1 h8 hk q vk m 0 _ _ H1 (by omega) (by have := vk.2.1; omega) (CQ_refl cq.1 cq.2.1) g
        rw [Int.sub_zero] at g
        exact ⟨_, H2, g, by unfold cuQ; rw [if_pos ⟨⟨hk, h8⟩, q⟩], CQ_trans cq q2⟩
      · have h8' : 8 ≤ S 0 1 := by omega
        simp (maxDischargeDepth := 12) -implicitDefEqProofs [vb_X11_cure_0, vb_X11_cure_42, vb_X11_cure_44, vb_X11_cure_60, vb_X11_cure_88, vb_X11_cure_98, vb_X11_cure_121, vb_X11_cure_127, xI_0, xI_1, xI_2, xI_3, xI_5, xI_6, xI_7, xI_8, xI_9, xI_14, xI_16, xI_36, xI_37, xI_40, xI_44, xI_45, xI_46, xI_49, xI_51, xI_53, xI_60, xI_61, xI_62, xw_X11_cure_0, xw_X11_cure_42, xw_X11_cure_44, xw_X11_cure_60, xw_X11_cure_88, xw_X11_cure_98, xw_X11_cure_121, xw_X11_cure_127, zw_lit, xB_c, xB_s, xB_n, i1_c, j2_c, k1_c, jJ_e, xlg, xls, xla, xpd, ppush, zw_m1, zw_m2, zw_m3, gf_1_0, gf_1_3, gf_5_3, gf_8_3, gf_9_2, gf_11_0, gf_11_2, tg_11_0, tg_11_2, tg_1_0, tg_1_3, tg_5_3, tg_8_3, tg_9_2, gv_1_0, gv_1_3, gv_2_3, gv_215_2, gv_0_0, gv_0_2, xD1, xD2, xD3, xD4, xD5, xD6, xb1_0, zz, k0, k1, k2, k3, er, q, q', e23, h8, h8'] at g
        exact ⟨_, H1, g, by unfold cuQ; rw [if_neg (fun w => h8 w.1.2)], cq⟩
    · have q' : 0 ≤ rdL (S 0) k := by omega
      simp (maxDischargeDepth := 12) -implicitDefEqProofs [vb_X11_cure_0, vb_X11_cure_42, vb_X11_cure_44, vb_X11_cure_60, vb_X11_cure_88, vb_X11_cure_98, vb_X11_cure_121, vb_X11_cure_127, xI_0, xI_1, xI_2, xI_3, xI_5, xI_6, xI_7, xI_8, xI_9, xI_14, xI_16, xI_36, xI_37, xI_40, xI_44, xI_45, xI_46, xI_49, xI_51, xI_53, xI_60, xI_61, xI_62, xw_X11_cure_0, xw_X11_cure_42, xw_X11_cure_44, xw_X11_cure_60, xw_X11_cure_88, xw_X11_cure_98, xw_X11_cure_121, xw_X11_cure_127, zw_lit, xB_c, xB_s, xB_n, i1_c, j2_c, k1_c, jJ_e, xlg, xls, xla, xpd, ppush, zw_m1, zw_m2, zw_m3, gf_1_0, gf_1_3, gf_5_3, gf_8_3, gf_9_2, gf_11_0, gf_11_2, tg_11_0, tg_11_2, tg_1_0, tg_1_3, tg_5_3, tg_8_3, tg_9_2, gv_1_0, gv_1_3, gv_2_3, gv_215_2, gv_0_0, gv_0_2, xD1, xD2, xD3, xD4, xD5, xD6, xb1_0, zz, k0, k1, k2, k3, er, q, q'] at g
      exact ⟨_, H1, g, by unfold cuQ; rw [if_neg (fun w => q w.2)], cq⟩
  · by_cases k0 : 0 ≤ k
    · have k1 : ¬ k ≤ H1 1 4 - 1 := by omega
      have k2 : ¬ k < 0 := by omega
      have k3 : H1 1 4 - 1 < k := by omega
      simp (maxDischargeDepth := 12) -implicitDefEqProofs [vb_X11_cure_0, vb_X11_cure_42, vb_X11_cure_44, vb_X11_cure_60, vb_X11_cure_88, vb_X11_cure_98, vb_X11_cure_121, vb_X11_cure_127, xI_0, xI_1, xI_2, xI_3, xI_5, xI_6, xI_7, xI_8, xI_9, xI_14, xI_16, xI_36, xI_37, xI_40, xI_44, xI_45, xI_46, xI_49, xI_51, xI_53, xI_60, xI_61, xI_62, xw_X11_cure_0, xw_X11_cure_42, xw_X11_cure_44, xw_X11_cure_60, xw_X11_cure_88, xw_X11_cure_98, xw_X11_cure_121, xw_X11_cure_127, zw_lit, xB_c, xB_s, xB_n, i1_c, j2_c, k1_c, jJ_e, xlg, xls, xla, xpd, ppush, zw_m1, zw_m2, zw_m3, gf_1_0, gf_1_3, gf_5_3, gf_8_3, gf_9_2, gf_11_0, gf_11_2, tg_11_0, tg_11_2, tg_1_0, tg_1_3, tg_5_3, tg_8_3, tg_9_2, gv_1_0, gv_1_3, gv_2_3, gv_215_2, gv_0_0, gv_0_2, xD1, xD2, xD3, xD4, xD5, xD6, xb1_0, zz, k0, k1, k2, k3] at g
      exact ⟨_, H1, g, by unfold cuQ; rw [if_neg (by omega)], cq⟩
    · have k2 : k < 0 := by omega
      simp (maxDischargeDepth := 12) -implicitDefEqProofs [vb_X11_cure_0, vb_X11_cure_42, vb_X11_cure_44, vb_X11_cure_60, vb_X11_cure_88, vb_X11_cure_98, vb_X11_cure_121, vb_X11_cure_127, xI_0, xI_1, xI_2, xI_3, xI_5, xI_6, xI_7, xI_8, xI_9, xI_14, xI_16, xI_36, xI_37, xI_40, xI_44, xI_45, xI_46, xI_49, xI_51, xI_53, xI_60, xI_61, xI_62, xw_X11_cure_0, xw_X11_cure_42, xw_X11_cure_44, xw_X11_cure_60, xw_X11_cure_88, xw_X11_cure_98, xw_X11_cure_121, xw_X11_cure_127, zw_lit, xB_c, xB_s, xB_n, i1_c, j2_c, k1_c, jJ_e, xlg, xls, xla, xpd, ppush, zw_m1, zw_m2, zw_m3, gf_1_0, gf_1_3, gf_5_3, gf_8_3, gf_9_2, gf_11_0, gf_11_2, tg_11_0, tg_11_2, tg_1_0, tg_1_3, tg_5_3, tg_8_3, tg_9_2, gv_1_0, gv_1_3, gv_2_3, gv_215_2, gv_0_0, gv_0_2, xD1, xD2, xD3, xD4, xD5, xD6, xb1_0, zz, k0, k2] at g
      exact ⟨_, H1, g, by unfold cuQ; rw [if_neg (by omega)], cq⟩
