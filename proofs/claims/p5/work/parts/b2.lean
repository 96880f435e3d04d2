/-! what a law that was read makes is well formed -/
theorem dpF_cg {w w' : Nat → Int} : ∀ k : Nat, (∀ j, j < k → w j = w' j) → dpF w k = dpF w' k
  | 0, _ => rfl
  | k + 1, h => by
    unfold dpF
    rw [dpF_cg k (fun j hj => h j (by omega)), h k (by omega)]
def dpL (l : List Int) : Int := dpF (fun k => l.getD k 0) l.length
theorem dpF_app {l : List Int} {v : Int} {k : Nat} (h : k ≤ l.length) : dpF (fun k => (l ++ [v]).getD k 0) k = dpF (fun k => l.getD k 0) k := dpF_cg k (fun j hj => by
  show (l ++ [v]).getD j 0 = l.getD j 0
  rw [getD_app, if_pos (by omega)])
theorem len_app {l : List Int} {v : Int} : (l ++ [v]).length = l.length + 1 := by
  rw [List.length_append]
  rfl
theorem dpL_app {l : List Int} {v : Int} : dpL (l ++ [v]) = if v < 11000 then dpL l + 1 else dpL l - 1 := by
  have e : (l ++ [v]).getD l.length 0 = v := by rw [getD_app, if_neg (by omega), if_pos rfl]
  unfold dpL
  rw [len_app]
  show (if (l ++ [v]).getD l.length 0 < 11000 then dpF (fun k => (l ++ [v]).getD k 0) l.length + 1 else dpF (fun k => (l ++ [v]).getD k 0) l.length - 1) = _
  rw [e, dpF_app (Nat.le_refl _)]
def WLl (l : List Int) : Prop := WFL (fun k => l.getD k 0) l.length
theorem WLl_app {l : List Int} {v : Int} (h : WLl l) (h60 : l.length < 60) (hv : -1000000 < v ∧ v < 1000000) (h1 : v < 11000 → dpL l ≤ 29) (h2 : ¬ v < 11000 → 2 ≤ dpL l) : WLl (l ++ [v]) := by
  obtain ⟨a, b, c⟩ := h
  refine ⟨by omega, by rw [len_app]; omega, fun k hk => ?_⟩
  rw [len_app] at hk
  by_cases e : k = l.length
  · have ev : (l ++ [v]).getD k 0 = v := by rw [getD_app, if_neg (by omega), if_pos e]
    show -1000000 < (l ++ [v]).getD k 0 ∧ (l ++ [v]).getD k 0 < 1000000 ∧ _
    rw [ev, dpF_app (by omega), e]
    exact ⟨hv.1, hv.2, fun q => h1 (by rw [← ev, e]; rw [e] at *; exact q), fun q => h2 (by rw [← ev, e]; rw [e] at *; exact q)⟩
  · have ev : (l ++ [v]).getD k 0 = l.getD k 0 := by rw [getD_app, if_pos (by omega)]
    have := c k (by omega)
    show -1000000 < (l ++ [v]).getD k 0 ∧ (l ++ [v]).getD k 0 < 1000000 ∧ ((l ++ [v]).getD k 0 < 11000 → _) ∧ (¬ (l ++ [v]).getD k 0 < 11000 → _)
    rw [ev, dpF_app (by omega)]
    exact this
theorem dpL_0 {l : List Int} (h : WLl l) : 0 ≤ dpL l := ((dpF_pos h) l.length (Int.le_refl _)).1
/-- of a piece: well formed, a value more -/
def thW (th : LwS → Option LwS) (z : Int) : Prop := ∀ s s', LGd z s → WLl s.2.2 → dpL s.2.2 ≤ s.2.1 → th s = some s' → WLl s'.2.2 ∧ dpL s'.2.2 = dpL s.2.2 + 1 ∧ dpL s'.2.2 ≤ s'.2.1
theorem lp_W (th : LwS → Option LwS) (z : Int) (c : Int) (hc : isP c ∨ isS c) (hth : thG th z) (hW : thW th z) (s s1 : LwS) (hz : s.1 < z) (h : LGd z s) (hl : (s.2.2.length : Int) + 1 ≤ 2 * s.2.1) (w : WLl s.2.2) (d1 : 1 ≤ dpL s.2.2) (dt : dpL s.2.2 ≤ s.2.1) (e1 : th (s.1 + 1, s.2) = some s1) : LGd z (pst s1 (11000 + c)) ∧ ((pst s1 (11000 + c)).2.2.length : Int) + 1 ≤ 2 * (pst s1 (11000 + c)).2.1 ∧ WLl (pst s1 (11000 + c)).2.2 ∧ dpL (pst s1 (11000 + c)).2.2 = dpL s.2.2 ∧ dpL (pst s1 (11000 + c)).2.2 ≤ (pst s1 (11000 + c)).2.1 := by
  have hg : LGd z (s.1 + 1, s.2) := ⟨by have := h.1; show 0 ≤ s.1 + 1; omega, by show s.1 + 1 ≤ z; omega, h.2.2⟩
  obtain ⟨g1, ⟨u1, u2, u3⟩, g3⟩ := hth _ s1 hg e1
  have u2 : s.2.1 + 1 ≤ s1.2.1 := u2
  have u3 : (s1.2.2.length : Int) + 1 - 2 * s1.2.1 ≤ (s.2.2.length : Int) - 2 * s.2.1 := u3
  obtain ⟨w1, w2, w3⟩ := hW _ s1 hg w dt e1
  have w2 : dpL s1.2.2 = dpL s.2.2 + 1 := w2
  have c0 : 11000 ≤ 11000 + c ∧ 11000 + c < 1000000 := by
    unfold isP isS at hc
    omega
  have g30 := g1.2.2.2.1
  have ed : dpL (s1.2.2 ++ [11000 + c]) = dpL s.2.2 := by
    rw [dpL_app, if_neg (by omega)]
    omega
  refine ⟨LGd_pst g1 (by omega), by rw [pst_len]; show (s1.2.2.length : Int) + 1 + 1 ≤ 2 * s1.2.1; omega, ?_, ed, ?_⟩
  · exact WLl_app w1 (by omega) (by omega) (fun q => by omega) (fun _ => by omega)
  · show dpL (s1.2.2 ++ [11000 + c]) ≤ s1.2.1
    rw [ed]
    omega
section PW
variable {th : LwS → Option LwS} {T : Int → Int} {z : Int}
theorem pLp_W (hth : thG th z) (hW : thW th z) : ∀ (n : Nat) (s s' : LwS), LGd z s → (s.2.2.length : Int) + 1 ≤ 2 * s.2.1 → WLl s.2.2 → 1 ≤ dpL s.2.2 → dpL s.2.2 ≤ s.2.1 → pLp th T z n s = some s' → WLl s'.2.2 ∧ dpL s'.2.2 = dpL s.2.2 ∧ dpL s'.2.2 ≤ s'.2.1
  | 0, s, s', h, hl, w, d1, dt, e => by
    cases e
    exact ⟨w, rfl, dt⟩
  | n + 1, s, s', h, hl, w, d1, dt, e => by
    unfold pLp at e
    split at e
    · rename_i q
      have hz := nxb_lt (T := T) (z := z) (a := s.1) (by unfold isP at q; omega)
      split at e
      · cases e
      · rename_i s1 e1
        obtain ⟨k1, k2, k3, k4, k5⟩ := lp_W th z (nxb T z s.1) (Or.inl q) hth hW s s1 hz h hl w d1 dt e1
        obtain ⟨j1, j2, j3⟩ := pLp_W hth hW n _ s' k1 k2 k3 (by omega) k5 e
        exact ⟨j1, by omega, j3⟩
    · cases e
      exact ⟨w, rfl, dt⟩
theorem pPr_W (hth : thG th z) (hW : thW th z) : thW (pPr th T z) z := by
  intro s s' h w dt e
  unfold pPr at e
  split at e
  · cases e
  · rename_i s1 e1
    obtain ⟨g1, ⟨u1, u2, u3⟩, g3⟩ := hth s s1 h e1
    obtain ⟨w1, w2, w3⟩ := hW s s1 h w dt e1
    have hl := h.2.2.2.2
    have d0 := dpL_0 w
    obtain ⟨k1, k2, k3⟩ := pLp_W hth hW 30 s1 s' g1 (by omega) w1 (by omega) w3 e
    exact ⟨k1, by omega, k3⟩
theorem sLp_W (hth : thG th z) (hW : thW th z) : ∀ (n : Nat) (s s' : LwS), LGd z s → (s.2.2.length : Int) + 1 ≤ 2 * s.2.1 → WLl s.2.2 → 1 ≤ dpL s.2.2 → dpL s.2.2 ≤ s.2.1 → sLp th T z n s = some s' → WLl s'.2.2 ∧ dpL s'.2.2 = dpL s.2.2 ∧ dpL s'.2.2 ≤ s'.2.1
  | 0, s, s', h, hl, w, d1, dt, e => by
    cases e
    exact ⟨w, rfl, dt⟩
  | n + 1, s, s', h, hl, w, d1, dt, e => by
    unfold sLp at e
    split at e
    · rename_i q
      have hz := nxb_lt (T := T) (z := z) (a := s.1) (by unfold isS at q; omega)
      split at e
      · cases e
      · rename_i s1 e1
        obtain ⟨k1, k2, k3, k4, k5⟩ := lp_W (pPr th T z) z (nxb T z s.1) (Or.inr q) (pPr_g hth) (pPr_W hth hW) s s1 hz h hl w d1 dt e1
        obtain ⟨j1, j2, j3⟩ := sLp_W hth hW n _ s' k1 k2 k3 (by omega) k5 e
        exact ⟨j1, by omega, j3⟩
    · cases e
      exact ⟨w, rfl, dt⟩
theorem sSm_W (hth : thG th z) (hW : thW th z) : thW (sSm th T z) z := by
  intro s s' h w dt e
  unfold sSm at e
  split at e
  · cases e
  · rename_i s1 e1
    obtain ⟨g1, ⟨u1, u2, u3⟩, g3⟩ := pPr_g hth s s1 h e1
    obtain ⟨w1, w2, w3⟩ := pPr_W hth hW s s1 h w dt e1
    have hl := h.2.2.2.2
    have d0 := dpL_0 w
    obtain ⟨k1, k2, k3⟩ := sLp_W hth hW 30 s1 s' g1 (by omega) w1 (by omega) w3 e
    exact ⟨k1, by omega, k3⟩
end PW
theorem lwTh_W {T : Int → Int} {z : Int} : ∀ m : Nat, thW (lwTh T z m) z
  | 0, s, s', h, w, dt, e => by cases e
  | m + 1, s, s', h, w, dt, e => by
    obtain ⟨a, b, c, d, l⟩ := h
    have d0 := dpL_0 w
    unfold lwTh at e
    split at e
    · cases e
    · rename_i q30
      have one : ∀ (p v : Int), (-1000000 < v ∧ v < 11000) → WLl (s.2.2 ++ [v]) ∧ dpL (s.2.2 ++ [v]) = dpL s.2.2 + 1 ∧ dpL (s.2.2 ++ [v]) ≤ s.2.1 + 1 := fun p v hv => by
        have ed : dpL (s.2.2 ++ [v]) = dpL s.2.2 + 1 := by rw [dpL_app, if_pos hv.2]
        exact ⟨WLl_app w (by omega) ⟨hv.1, by omega⟩ (fun _ => by omega) (fun q => (q hv.2).elim), ed, by omega⟩
      split at e
      · rename_i q40
        have hz := nxb_lt (T := T) (z := z) (a := s.1) (by omega)
        split at e
        · cases e
        · rename_i s1 e1
          obtain ⟨w1, w2, w3⟩ := sSm_W (T := T) (lwTh_g m) (lwTh_W m) (s.1 + 1, s.2.1 + 1, s.2.2) s1 ⟨by show 0 ≤ s.1 + 1; omega, by show s.1 + 1 ≤ z; omega, by show 0 ≤ s.2.1 + 1; omega, by show s.2.1 + 1 ≤ 30; omega, by show (s.2.2.length : Int) ≤ 2 * (s.2.1 + 1); omega⟩ w (by show dpL s.2.2 ≤ s.2.1 + 1; omega) e1
          split at e
          · cases e
            exact ⟨w1, w2, w3⟩
          · cases e
      · split at e
        · split at e
          · cases e
          · cases e
            have rg := dgF_rg (sz := z) (w := T) 4 s.1 0 (by unfold dB; omega)
            have dg := dgt_dg (w := T) (sz := z) 4 s.1 0 a
            exact one 0 _ (by rw [dg]; show -1000000 < (dgF z T 4 s.1 0).1 ∧ (dgF z T 4 s.1 0).1 < 11000; omega)
        · split at e
          · cases e
            exact one 0 _ (by decide)
          · split at e
            · cases e
              exact one 0 _ (by decide)
            · split at e
              · cases e
                exact one 0 _ (by decide)
              · cases e
/-- all of a law -/
theorem lwAll_W {T : Int → Int} {z : Int} {q : Int × List Int} (e : lwAll T z = some q) : WLl q.2 ∧ (0 ≤ q.1 ∧ q.1 ≤ 30) ∧ (q.1 = 0 ↔ (q.2.length : Int) = 0) := by
  unfold lwAll at e
  split at e
  · cases e
    exact ⟨⟨by decide, by decide, fun k hk => by have : (k : Int) < 0 := hk; omega⟩, by decide, by decide⟩
  · split at e
    · cases e
    · rename_i s e1
      split at e
      · cases e
      · cases e
        have g0 : LGd z (0, 0, []) := ⟨by decide, by show (0 : Int) ≤ z; omega, by decide, by decide, by decide⟩
        obtain ⟨g1, ⟨u1, u2, u3⟩, g3⟩ := sSm_g (T := T) (lwTh_g 8) _ s g0 e1
        have w0 : WLl [] := ⟨by decide, by decide, fun k hk => by have : (k : Int) < 0 := hk; omega⟩
        obtain ⟨w1, w2, w3⟩ := sSm_W (T := T) (lwTh_g 8) (lwTh_W 8) _ s g0 w0 (by decide) e1
        have w2 : dpL s.2.2 = 0 + 1 := w2
        have u2 : (0 : Int) + 1 ≤ s.2.1 := u2
        refine ⟨w1, ⟨by omega, g1.2.2.2.1⟩, ?_⟩
        have ne : ¬ s.2.2.length = 0 := fun q => by
          have : s.2.2 = [] := List.length_eq_zero_iff.mp q
          rw [this] at w2
          revert w2
          decide
        constructor
        · intro q
          omega
        · intro q
          omega
