def xD5 (E : xE) (n mj : Nat) (as : List pv) (H : PH) (K : Option pv → PH → Prop) : Prop := match mj with
  | 52 => ∀ c a b d, as = [(0, c), (0, a), (0, b), (0, d)] → (-2147483648 < c ∧ c ≤ 2147483647) → K (some (0, vlV c a b d)) H
  | 53 => ∀ s x y, as = [(0, s), (0, x), (0, y)] → K (some (0, jnV s x y)) H
  | 190 => ∀ s x y, as = [(0, s), (0, x), (0, y)] → K (some (0, jnV s x y)) H
  | _ => xD4 E n mj as H K
theorem xD5_ok {E : xE} {n : Nat} : xCC E n (xD5 E n) := by
  intro mj as H K h
  unfold xD5
  split
  · intro c a b d e pr
    subst e
    obtain ⟨r, H2, ⟨rfl, rfl⟩, g⟩ := xc_use h (sp_X4_valueOf c a b d H pr)
    exact g
  · intro s x y e
    subst e
    obtain ⟨r, H2, ⟨rfl, rfl⟩, g⟩ := xc_use h (sp_X4_join s x y H)
    exact g
  · intro s x y e
    subst e
    obtain ⟨r, H2, ⟨rfl, rfl⟩, g⟩ := xc_use h (sp_X12_joined s x y H)
    exact g
  · exact xD4_ok _ _ _ _ h
/-! what a law makes of two counts -/
abbrev pS : Type := Int × (Int → Int)
def psV (w ship shore cnt : Int) : Int := if w < 10000 then w else if w = 10000 then ship else if w = 10001 then shore else cnt
def agS (w ship shore cnt : Int) (s : pS) : pS := if w < 11000 then (s.1 + 1, xup s.2 s.1 (psV w ship shore cnt)) else (s.1 - 1, xup s.2 (s.1 - 2) (jnV (w - 11000) (s.2 (s.1 - 2)) (s.2 (s.1 - 1))))
def agF (w : Nat → Int) (ship shore cnt : Int) : Nat → Nat → pS → pS
  | 0, _, s => s
  | n + 1, k, s => agF w ship shore cnt n (k + 1) (agS (w k) ship shore cnt s)
def dpF (w : Nat → Int) : Nat → Int
  | 0 => 0
  | k + 1 => if w k < 11000 then dpF w k + 1 else dpF w k - 1
/-- each operation finds two values, at most thirty lie there -/
def WFL (w : Nat → Int) (sz : Int) : Prop := 0 ≤ sz ∧ sz ≤ 60 ∧ ∀ k : Nat, (k : Int) < sz → -1000000 < w k ∧ w k < 1000000 ∧ (w k < 11000 → dpF w k ≤ 29) ∧ (¬ w k < 11000 → 2 ≤ dpF w k)
theorem dpF_pos {w : Nat → Int} {sz : Int} (h : WFL w sz) : ∀ k : Nat, ((k : Int) ≤ sz → 0 ≤ dpF w k ∧ dpF w k ≤ 30 ∧ (0 < k → 1 ≤ dpF w k))
  | 0 => fun _ => ⟨Int.le_refl _, by show (0 : Int) ≤ 30; omega, fun q => by omega⟩
  | k + 1 => fun hk => by
    obtain ⟨h0, h1, h2⟩ := dpF_pos h k (by omega)
    obtain ⟨_, _, g1, g2⟩ := h.2.2 k (by omega)
    show 0 ≤ (if w k < 11000 then dpF w k + 1 else dpF w k - 1) ∧ (if w k < 11000 then dpF w k + 1 else dpF w k - 1) ≤ 30 ∧ (0 < k + 1 → 1 ≤ (if w k < 11000 then dpF w k + 1 else dpF w k - 1))
    by_cases c : w k < 11000
    · have := g1 c
      rw [if_pos c]
      omega
    · have := g2 c
      rw [if_neg c]
      omega
def agV (w : Nat → Int) (sz ship shore cnt : Int) : Int := max 0 (min 1000000 ((agF w ship shore cnt sz.toNat 0 (0, fun _ => 0)).2 0))
def agA (A : Int → Int) (ship shore cnt : Int) : Int := if A 10 = 0 then min ship shore else agV (fun k => A (12 + k)) (A 11) ship shore cnt
/-- what is in bounds of a row's law -/
def ML (A : Int → Int) : Prop := WFL (fun k => A (12 + k)) (A 11) ∧ (A 10 = 0 ↔ A 11 = 0)
theorem zw_dec {n : Int} (h0 : -2147483647 ≤ n) (h1 : n < 2147483648) : zw (n + 4294967295) = n - 1 := by
  unfold zw
  omega
theorem lp_agM (ship shore cnt : Int) (A : Int → Int) (hL : WFL (fun k => A (12 + k)) (A 11)) (hp : 0 < A 11) {E : xE} {res : xR} : ∀ (n : Nat) (k : Nat) (v : Int) (t : pS) (H : PH), (k : Int) ≤ A 11 → H 591 = A → t.1 = dpF (fun k => A (12 + k)) k → (∀ x, 0 ≤ x → x < t.1 → H 598 x = t.2 x) → RUN E res n kd_X12_agree (zget kd_X12_agree 22) 22 [590, ship, shore, cnt, t.1, (k : Int), v] [] H → ∃ H' : PH, SCm [598] [] H H' ∧ REPR E res (some (0, max 0 (min 1000000 ((agF (fun k => A (12 + k)) ship shore cnt (A 11 - k).toNat k t).2 0)))) H' := by
  intro n
  induction n using Nat.strongRecOn with
  | _ n ih =>
    intro k v t H hk hA ht hP h
    have hl := hL.1
    have hu := hL.2.1
    obtain ⟨d0, d1, d2⟩ := dpF_pos hL k hk
    have z1 : zw ((k : Int) + 1) = (k : Int) + 1 := zw_lit (by omega) (by omega)
    have z2 : zw (12 + (k : Int)) = 12 + (k : Int) := zw_lit (by omega) (by omega)
    have z3 : zw (t.1 + 1) = t.1 + 1 := zw_lit (by omega) (by omega)
    have z4 : zw (t.1 + 4294967295) = t.1 - 1 := zw_dec (by omega) (by omega)
    have z5 : zw (t.1 - 1 - 1) = t.1 - 2 := by
      rw [zw_lit (by omega) (by omega)]
      omega
    by_cases q : A 11 ≤ (k : Int)
    · have h := xw_top (hd := [22]) 12 xD5_ok xc_X12_agree xa_X12_agree (t := 22) rfl h
      simp (maxDischargeDepth := 12) -implicitDefEqProofs [vb_X12_agree_0, vb_X12_agree_16, vb_X12_agree_22, vb_X12_agree_73, vb_X12_agree_85, vb_X12_agree_97, vb_X12_agree_98, vb_X12_agree_105, vb_X12_agree_142, vb_X12_agree_148, xI_0, xI_1, xI_3, xI_6, xI_7, xI_8, xI_9, xI_10, xI_14, xI_15, xI_36, xI_38, xI_44, xI_46, xI_49, xI_51, xI_52, xI_60, xI_62, xw_X12_agree_0, xw_X12_agree_16, xw_X12_agree_22, xw_X12_agree_73, xw_X12_agree_85, xw_X12_agree_97, xw_X12_agree_98, xw_X12_agree_105, xw_X12_agree_142, xw_X12_agree_148, zw_lit, xB_c, xB_s, xB_n, i1_c, j2_c, k1_c, jJ_e, xlg, xls, xla, xpd, ppush, zw_m1, zw_m2, zw_m3, gf_12_0, gf_12_15, tg_12_0, tg_12_15, gv_590_0, gv_590_15, xD1, xD2, xD3, xD4, xD5, hA] at h
      rcases h with ⟨_, h⟩ | ⟨q', h⟩
      · rw [show (A 11 - (k : Int)).toNat = 0 by omega]
        rw [hP 0 (Int.le_refl _) (by rw [ht]; have := d2 (by omega); omega), Int.min_comm 1000000] at h
        exact ⟨H, SCm_refl, (by rw [Int.min_comm 1000000]; exact h)⟩
      · omega
    · obtain ⟨w0, w1, g1, g2⟩ := hL.2.2 k (by omega)
      have w0 : -1000000 < A (12 + (k : Int)) := w0
      have w1 : A (12 + (k : Int)) < 1000000 := w1
      have z6 : zw (A (12 + (k : Int)) - 11000) = A (12 + (k : Int)) - 11000 := zw_lit (by omega) (by omega)
      have es : dpF (fun k => A (12 + k)) (k + 1) = if A (12 + (k : Int)) < 11000 then dpF (fun k => A (12 + k)) k + 1 else dpF (fun k => A (12 + k)) k - 1 := rfl
      rw [show (A 11 - (k : Int)).toNat = (A 11 - ((k + 1 : Nat) : Int)).toNat + 1 by omega]
      unfold agF
      have fin : ∀ (u x : Int) (H3 : PH), H3 = pup H 598 u x → (agS (A (12 + (k : Int))) ship shore cnt t).2 = xup t.2 u x → (agS (A (12 + (k : Int))) ship shore cnt t).1 = dpF (fun k => A (12 + k)) (k + 1) → (∀ y, 0 ≤ y → y < (agS (A (12 + (k : Int))) ship shore cnt t).1 → y = u ∨ y < t.1) → ∀ y : Int, xJ E res n kd_X12_agree 22 [590, ship, shore, cnt, (agS (A (12 + (k : Int))) ship shore cnt t).1, (k : Int) + 1, y] [] H3 → ∃ H' : PH, SCm [598] [] H H' ∧ REPR E res (some (0, max 0 (min 1000000 ((agF (fun k => A (12 + k)) ship shore cnt (A 11 - ((k + 1 : Nat) : Int)).toNat (k + 1) (agS (A (12 + (k : Int))) ship shore cnt t)).2 0)))) H' := by
        rintro u x H3 rfl a1 a2 a3 y ⟨m, hm, a4⟩
        rw [show (k : Int) + 1 = ((k + 1 : Nat) : Int) by omega] at a4
        obtain ⟨H', s1, s2⟩ := ih m hm (k + 1) y _ _ (by omega) ((xp_ne (by decide)).trans hA) a2 (fun z z0 z1 => by
          rw [a1, xp_at]
          unfold xup
          split
          · rfl
          · exact hP z z0 (by have := a3 z z0 z1; omega)) a4
        exact ⟨H', SCm_trans (SCm_cell (by decide) (by decide)) s1, s2⟩
      by_cases c : A (12 + (k : Int)) < 11000
      · have ea : agS (A (12 + (k : Int))) ship shore cnt t = (t.1 + 1, xup t.2 t.1 (psV (A (12 + (k : Int))) ship shore cnt)) := if_pos c
        rw [if_pos c] at es
        rw [ea] at fin ⊢
        dsimp only at fin
        have h := xw_top (hd := [22]) 12 xD5_ok xc_X12_agree xa_X12_agree (t := 22) rfl h
        simp (maxDischargeDepth := 12) -implicitDefEqProofs [vb_X12_agree_0, vb_X12_agree_16, vb_X12_agree_22, vb_X12_agree_73, vb_X12_agree_85, vb_X12_agree_97, vb_X12_agree_98, vb_X12_agree_105, vb_X12_agree_142, vb_X12_agree_148, xI_0, xI_1, xI_3, xI_6, xI_7, xI_8, xI_9, xI_10, xI_14, xI_15, xI_36, xI_38, xI_44, xI_46, xI_49, xI_51, xI_52, xI_60, xI_62, xw_X12_agree_0, xw_X12_agree_16, xw_X12_agree_22, xw_X12_agree_73, xw_X12_agree_85, xw_X12_agree_97, xw_X12_agree_98, xw_X12_agree_105, xw_X12_agree_142, xw_X12_agree_148, zw_lit, xB_c, xB_s, xB_n, i1_c, j2_c, k1_c, jJ_e, xlg, xls, xla, xpd, ppush, zw_m1, zw_m2, zw_m3, gf_12_0, gf_12_15, tg_12_0, tg_12_15, gv_590_0, gv_590_15, xD1, xD2, xD3, xD4, xD5, hA, z1, z2, z3] at h
        rcases h with ⟨q', h⟩ | ⟨_, h⟩
        · omega
        · rcases h with ⟨c', h⟩ | ⟨_, h⟩
          · omega
          · repeat' (first | (refine Or.elim h ?_ ?_ <;> clear h <;> intro h) | (refine And.elim ?_ h; clear h; intro _ h))
            all_goals refine fin t.1 (psV (A (12 + (k : Int))) ship shore cnt) _ ?_ rfl (by show t.1 + 1 = _; omega) (by intro y y0 (y1 : y < t.1 + 1); omega) _ h
            all_goals (refine congrArg (pup H 598 t.1) ?_; unfold psV; omega)
      · have ea : agS (A (12 + (k : Int))) ship shore cnt t = (t.1 - 1, xup t.2 (t.1 - 2) (jnV (A (12 + (k : Int)) - 11000) (t.2 (t.1 - 2)) (t.2 (t.1 - 1)))) := if_neg c
        rw [if_neg c] at es
        rw [ea] at fin ⊢
        dsimp only at fin
        have d3 := g2 c
        have d3 : 2 ≤ dpF (fun k => A (12 + k)) k := d3
        have p1 : H 598 (t.1 - 2) = t.2 (t.1 - 2) := hP _ (by omega) (by omega)
        have p2 : H 598 (t.1 - 1) = t.2 (t.1 - 1) := hP _ (by omega) (by omega)
        have h := xw_top (hd := [22]) 12 xD5_ok xc_X12_agree xa_X12_agree (t := 22) rfl h
        simp (maxDischargeDepth := 12) -implicitDefEqProofs [vb_X12_agree_0, vb_X12_agree_16, vb_X12_agree_22, vb_X12_agree_73, vb_X12_agree_85, vb_X12_agree_97, vb_X12_agree_98, vb_X12_agree_105, vb_X12_agree_142, vb_X12_agree_148, xI_0, xI_1, xI_3, xI_6, xI_7, xI_8, xI_9, xI_10, xI_14, xI_15, xI_36, xI_38, xI_44, xI_46, xI_49, xI_51, xI_52, xI_60, xI_62, xw_X12_agree_0, xw_X12_agree_16, xw_X12_agree_22, xw_X12_agree_73, xw_X12_agree_85, xw_X12_agree_97, xw_X12_agree_98, xw_X12_agree_105, xw_X12_agree_142, xw_X12_agree_148, zw_lit, xB_c, xB_s, xB_n, i1_c, j2_c, k1_c, jJ_e, xlg, xls, xla, xpd, ppush, zw_m1, zw_m2, zw_m3, gf_12_0, gf_12_15, tg_12_0, tg_12_15, gv_590_0, gv_590_15, xD1, xD2, xD3, xD4, xD5, hA, z1, z2, z4, z5, z6, p1, p2] at h
        rcases h with ⟨q', h⟩ | ⟨_, h⟩
        · omega
        · rcases h with ⟨_, h⟩ | ⟨c', h⟩
          · exact fin (t.1 - 2) (jnV (A (12 + (k : Int)) - 11000) (t.2 (t.1 - 2)) (t.2 (t.1 - 1))) _ rfl rfl (by show t.1 - 1 = _; omega) (by intro y y0 (y1 : y < t.1 - 1); omega) (A (12 + (k : Int))) h
          · omega
theorem agF_eq {w w' : Nat → Int} (ship shore cnt : Int) {sz : Int} (h : WFL w sz) (he : ∀ k : Nat, (k : Int) < sz → w k = w' k) : ∀ (n k : Nat) (t t' : pS), (k : Int) + n ≤ sz → t.1 = dpF w k → t'.1 = t.1 → (∀ x, 0 ≤ x → x < t.1 → t.2 x = t'.2 x) → (agF w ship shore cnt n k t).1 = (agF w' ship shore cnt n k t').1 ∧ (agF w ship shore cnt n k t).1 = dpF w (k + n) ∧ ∀ x, 0 ≤ x → x < (agF w ship shore cnt n k t).1 → (agF w ship shore cnt n k t).2 x = (agF w' ship shore cnt n k t').2 x
  | 0, k, t, t', _, ht, h1, h2 => ⟨h1.symm, ht, h2⟩
  | n + 1, k, t, t', hn, ht, h1, h2 => by
    unfold agF
    obtain ⟨d0, d1, d2⟩ := dpF_pos h k (by omega)
    obtain ⟨_, _, g1, g2⟩ := h.2.2 k (by omega)
    rw [← he k (by omega), show k + (n + 1) = k + 1 + n by omega]
    have es : dpF w (k + 1) = if w k < 11000 then dpF w k + 1 else dpF w k - 1 := rfl
    by_cases c : w k < 11000
    · rw [if_pos c] at es
      unfold agS
      rw [if_pos c, if_pos c]
      refine agF_eq ship shore cnt h he n (k + 1) _ _ (by omega) (by show t.1 + 1 = _; omega) (by show t'.1 + 1 = t.1 + 1; omega) (fun x x0 x1 => ?_)
      show xup t.2 t.1 _ x = xup t'.2 t'.1 _ x
      have x1 : x < t.1 + 1 := x1
      unfold xup
      rw [h1]
      split
      · rfl
      · exact h2 x x0 (by omega)
    · have d3 := g2 c
      rw [if_neg c] at es
      unfold agS
      rw [if_neg c, if_neg c]
      refine agF_eq ship shore cnt h he n (k + 1) _ _ (by omega) (by show t.1 - 1 = _; omega) (by show t'.1 - 1 = t.1 - 1; omega) (fun x x0 x1 => ?_)
      show xup t.2 (t.1 - 2) _ x = xup t'.2 (t'.1 - 2) _ x
      have x1 : x < t.1 - 1 := x1
      unfold xup
      rw [h1, h2 (t.1 - 2) (by omega) (by omega), h2 (t.1 - 1) (by omega) (by omega)]
      split
      · rfl
      · exact h2 x x0 (by omega)
theorem sp_X12_agree (ship shore cnt : Int) (H : PH) (hL : ML (H 591)) : SPEC 193 [(2, 590), (0, ship), (0, shore), (0, cnt)] H (fun r H' => r = some (0, agA (H 591) ship shore cnt) ∧ SCm [598] [] H H') := by
  intro E n res h
  by_cases q : H 591 10 = 0
  · have h := call_runP 7 vm_X12_agree h
    have h := xw_top (hd := [22]) 12 xD5_ok xc_X12_agree xa_X12_agree (t := 0) rfl h
    simp (maxDischargeDepth := 12) -implicitDefEqProofs [vb_X12_agree_0, vb_X12_agree_16, vb_X12_agree_22, vb_X12_agree_73, vb_X12_agree_85, vb_X12_agree_97, vb_X12_agree_98, vb_X12_agree_105, vb_X12_agree_142, vb_X12_agree_148, xI_0, xI_1, xI_3, xI_6, xI_7, xI_8, xI_9, xI_10, xI_14, xI_15, xI_36, xI_38, xI_44, xI_46, xI_49, xI_51, xI_52, xI_60, xI_62, xw_X12_agree_0, xw_X12_agree_16, xw_X12_agree_22, xw_X12_agree_73, xw_X12_agree_85, xw_X12_agree_97, xw_X12_agree_98, xw_X12_agree_105, xw_X12_agree_142, xw_X12_agree_148, zw_lit, xB_c, xB_s, xB_n, i1_c, j2_c, k1_c, jJ_e, xlg, xls, xla, xpd, ppush, zw_m1, zw_m2, zw_m3, gf_12_0, gf_12_15, tg_12_0, tg_12_15, gv_590_0, gv_590_15, xD1, xD2, xD3, xD4, xD5, q] at h
    refine ⟨_, H, h, ?_, SCm_refl⟩
    unfold agA
    rw [if_pos q]
  · have h := call_runP 7 vm_X12_agree h
    have h := xw_top (hd := [22]) 12 xD5_ok xc_X12_agree xa_X12_agree (t := 0) rfl h
    simp (maxDischargeDepth := 12) -implicitDefEqProofs [vb_X12_agree_0, vb_X12_agree_16, vb_X12_agree_22, vb_X12_agree_73, vb_X12_agree_85, vb_X12_agree_97, vb_X12_agree_98, vb_X12_agree_105, vb_X12_agree_142, vb_X12_agree_148, xI_0, xI_1, xI_3, xI_6, xI_7, xI_8, xI_9, xI_10, xI_14, xI_15, xI_36, xI_38, xI_44, xI_46, xI_49, xI_51, xI_52, xI_60, xI_62, xw_X12_agree_0, xw_X12_agree_16, xw_X12_agree_22, xw_X12_agree_73, xw_X12_agree_85, xw_X12_agree_97, xw_X12_agree_98, xw_X12_agree_105, xw_X12_agree_142, xw_X12_agree_148, zw_lit, xB_c, xB_s, xB_n, i1_c, j2_c, k1_c, jJ_e, xlg, xls, xla, xpd, ppush, zw_m1, zw_m2, zw_m3, gf_12_0, gf_12_15, tg_12_0, tg_12_15, gv_590_0, gv_590_15, xD1, xD2, xD3, xD4, xD5, q] at h
    obtain ⟨m, hm, h⟩ := h
    have hp : 0 < H 591 11 := by
      have := hL.1.1
      have := hL.2
      omega
    obtain ⟨H', g1, g2⟩ := lp_agM ship shore cnt (H 591) hL.1 hp m 0 0 (0, fun _ => 0) H (by omega) rfl rfl (fun x x0 (x1 : x < 0) => by omega) h
    refine ⟨_, H', g2, ?_, g1⟩
    unfold agA agV
    rw [if_neg q, show H 591 11 - ((0 : Nat) : Int) = H 591 11 by omega]
