/-! ===== the law, read: what the document asks ===== -/
/-- place, things, what is worked behind one another -/
abbrev LwS : Type := Int × Int × List Int
def nxb (T : Int → Int) (z a : Int) : Int := if 0 ≤ a ∧ a < z then T a else -1
abbrev isD (c : Int) : Prop := 48 ≤ c ∧ c ≤ 57
abbrev isP (c : Int) : Prop := c = 42 ∨ c = 47 ∨ c = 60 ∨ c = 62
abbrev isS (c : Int) : Prop := c = 43 ∨ c = 45
def dgt (T : Int → Int) (z : Int) : Nat → Int → Int → Int × Int
  | 0, a, v => (a, v)
  | n + 1, a, v => if isD (nxb T z a) then dgt T z n (a + 1) (v * 10 + nxb T z a - 48) else (a, v)
def pst (s : LwS) (v : Int) : LwS := (s.1, s.2.1, s.2.2 ++ [v])
section LW
variable (th : LwS → Option LwS) (T : Int → Int) (z : Int)
def pLp : Nat → LwS → Option LwS
  | 0, s => some s
  | n + 1, s => if isP (nxb T z s.1) then (match th (s.1 + 1, s.2) with
    | none => none
    | some s1 => pLp n (pst s1 (11000 + nxb T z s.1))) else some s
def pPr (s : LwS) : Option LwS := match th s with
  | none => none
  | some s1 => pLp th T z 30 s1
def sLp : Nat → LwS → Option LwS
  | 0, s => some s
  | n + 1, s => if isS (nxb T z s.1) then (match pPr th T z (s.1 + 1, s.2) with
    | none => none
    | some s1 => sLp n (pst s1 (11000 + nxb T z s.1))) else some s
def sSm (s : LwS) : Option LwS := match pPr th T z s with
  | none => none
  | some s1 => sLp th T z 30 s1
end LW
/-- a thing, so many deep yet -/
def lwTh (T : Int → Int) (z : Int) : Nat → LwS → Option LwS
  | 0, _ => none
  | m + 1, s => if 30 ≤ s.2.1 then none else if nxb T z s.1 = 40 then (match sSm (lwTh T z m) T z (s.1 + 1, s.2.1 + 1, s.2.2) with
    | none => none
    | some s1 => if nxb T z s1.1 = 41 then some (s1.1 + 1, s1.2) else none) else if isD (nxb T z s.1) then (if isD (nxb T z (dgt T z 4 s.1 0).1) then none else some ((dgt T z 4 s.1 0).1, s.2.1 + 1, s.2.2 ++ [(dgt T z 4 s.1 0).2])) else if nxb T z s.1 = 115 then some (s.1 + 1, s.2.1 + 1, s.2.2 ++ [10000]) else if nxb T z s.1 = 111 then some (s.1 + 1, s.2.1 + 1, s.2.2 ++ [10001]) else if nxb T z s.1 = 99 then some (s.1 + 1, s.2.1 + 1, s.2.2 ++ [10002]) else none
/-- the whole law: how many things, and what is worked -/
def lwAll (T : Int → Int) (z : Int) : Option (Int × List Int) := if z ≤ 0 then some (0, []) else match sSm (lwTh T z 8) T z (0, 0, []) with
  | none => none
  | some s => if s.1 < z then none else some s.2
def lwN (T : Int → Int) (z : Int) : Int := match lwAll T z with
  | none => -1
  | some q => q.1
/-! what holds of all of it: places go up, things are counted, there is room -/
def LGd (z : Int) (s : LwS) : Prop := 0 ≤ s.1 ∧ s.1 ≤ z ∧ 0 ≤ s.2.1 ∧ s.2.1 ≤ 30 ∧ (s.2.2.length : Int) ≤ 2 * s.2.1
/-- one value more: so many more values than signs -/
def upo (s s' : LwS) : Prop := s.1 < s'.1 ∧ s.2.1 + 1 ≤ s'.2.1 ∧ (s'.2.2.length : Int) + 1 - 2 * s'.2.1 ≤ (s.2.2.length : Int) - 2 * s.2.1
theorem dgt_b {T : Int → Int} {z : Int} : ∀ (n : Nat) (a v : Int), a ≤ z → a ≤ (dgt T z n a v).1 ∧ (dgt T z n a v).1 ≤ z
  | 0, a, v, h => ⟨Int.le_refl _, h⟩
  | n + 1, a, v, h => by
    unfold dgt
    split
    · rename_i q
      have hz : a < z := by
        by_cases c : 0 ≤ a ∧ a < z
        · exact c.2
        · unfold nxb at q
          rw [if_neg c] at q
          omega
      have := dgt_b (T := T) (z := z) n (a + 1) (v * 10 + nxb T z a - 48) (by omega)
      omega
    · exact ⟨Int.le_refl _, h⟩
theorem nxb_lt {T : Int → Int} {z a : Int} (h : 0 ≤ nxb T z a) : a < z := by
  by_cases c : 0 ≤ a ∧ a < z
  · exact c.2
  · unfold nxb at h
    rw [if_neg c] at h
    omega
section LP
variable {th : LwS → Option LwS} {T : Int → Int} {z : Int}
def thG (th : LwS → Option LwS) (z : Int) : Prop := ∀ s s', LGd z s → th s = some s' → LGd z s' ∧ upo s s' ∧ s.2.1 < 30
theorem pst_len {s : LwS} {v : Int} : ((pst s v).2.2.length : Int) = s.2.2.length + 1 := by
  unfold pst
  show (((s.2.2 ++ [v]).length : Nat) : Int) = _
  rw [List.length_append]
  show ((s.2.2.length + 1 : Nat) : Int) = _
  omega
theorem LGd_pst {s : LwS} {v : Int} (h : LGd z s) (hl : (s.2.2.length : Int) + 1 ≤ 2 * s.2.1) : LGd z (pst s v) := by
  obtain ⟨a, b, c, d, e⟩ := h
  refine ⟨a, b, c, d, ?_⟩
  rw [pst_len]
  exact hl
theorem pLp_g (hth : thG th z) : ∀ (n : Nat) (s s' : LwS), LGd z s → (s.2.2.length : Int) + 1 ≤ 2 * s.2.1 → pLp th T z n s = some s' → LGd z s' ∧ s.1 ≤ s'.1 ∧ s.2.1 ≤ s'.2.1 ∧ (s'.2.2.length : Int) - 2 * s'.2.1 ≤ (s.2.2.length : Int) - 2 * s.2.1
  | 0, s, s', h, hl, e => by
    cases e
    exact ⟨h, Int.le_refl _, Int.le_refl _, Int.le_refl _⟩
  | n + 1, s, s', h, hl, e => by
    unfold pLp at e
    split at e
    · rename_i q
      have hz := nxb_lt (T := T) (z := z) (a := s.1) (by omega)
      split at e
      · cases e
      · rename_i s1 e1
        obtain ⟨g1, g2, g3⟩ := hth (s.1 + 1, s.2) s1 ⟨by have := h.1; show 0 ≤ s.1 + 1; omega, by show s.1 + 1 ≤ z; omega, h.2.2⟩ e1
        obtain ⟨u1, u2, u3⟩ := g2
        have u1 : s.1 + 1 < s1.1 := u1
        have u2 : s.2.1 + 1 ≤ s1.2.1 := u2
        have u3 : (s1.2.2.length : Int) + 1 - 2 * s1.2.1 ≤ (s.2.2.length : Int) - 2 * s.2.1 := u3
        have hp : (s1.2.2.length : Int) + 1 + 1 ≤ 2 * s1.2.1 := by omega
        obtain ⟨k1, k2, k3, k4⟩ := pLp_g hth n _ s' (LGd_pst (v := 11000 + nxb T z s.1) g1 (by omega)) (by rw [pst_len]; exact hp) e
        rw [pst_len] at k4
        have k2 : s1.1 ≤ s'.1 := k2
        have k3 : s1.2.1 ≤ s'.2.1 := k3
        have k4 : (s'.2.2.length : Int) - 2 * s'.2.1 ≤ (s1.2.2.length : Int) + 1 - 2 * s1.2.1 := k4
        exact ⟨k1, by omega, by omega, by omega⟩
    · cases e
      exact ⟨h, Int.le_refl _, Int.le_refl _, Int.le_refl _⟩
theorem pPr_g (hth : thG th z) : thG (pPr th T z) z := by
  intro s s' h e
  unfold pPr at e
  split at e
  · cases e
  · rename_i s1 e1
    obtain ⟨g1, ⟨u1, u2, u3⟩, g3⟩ := hth s s1 h e1
    have hl := h.2.2.2.2
    obtain ⟨k1, k2, k3, k4⟩ := pLp_g hth 30 s1 s' g1 (by omega) e
    exact ⟨k1, ⟨by omega, by omega, by omega⟩, g3⟩
theorem sLp_g (hth : thG th z) : ∀ (n : Nat) (s s' : LwS), LGd z s → (s.2.2.length : Int) + 1 ≤ 2 * s.2.1 → sLp th T z n s = some s' → LGd z s' ∧ s.1 ≤ s'.1 ∧ s.2.1 ≤ s'.2.1 ∧ (s'.2.2.length : Int) - 2 * s'.2.1 ≤ (s.2.2.length : Int) - 2 * s.2.1
  | 0, s, s', h, hl, e => by
    cases e
    exact ⟨h, Int.le_refl _, Int.le_refl _, Int.le_refl _⟩
  | n + 1, s, s', h, hl, e => by
    unfold sLp at e
    split at e
    · rename_i q
      have hz := nxb_lt (T := T) (z := z) (a := s.1) (by omega)
      split at e
      · cases e
      · rename_i s1 e1
        obtain ⟨g1, g2, g3⟩ := pPr_g hth (s.1 + 1, s.2) s1 ⟨by have := h.1; show 0 ≤ s.1 + 1; omega, by show s.1 + 1 ≤ z; omega, h.2.2⟩ e1
        obtain ⟨u1, u2, u3⟩ := g2
        have u1 : s.1 + 1 < s1.1 := u1
        have u2 : s.2.1 + 1 ≤ s1.2.1 := u2
        have u3 : (s1.2.2.length : Int) + 1 - 2 * s1.2.1 ≤ (s.2.2.length : Int) - 2 * s.2.1 := u3
        have hp : (s1.2.2.length : Int) + 1 + 1 ≤ 2 * s1.2.1 := by omega
        obtain ⟨k1, k2, k3, k4⟩ := sLp_g hth n _ s' (LGd_pst (v := 11000 + nxb T z s.1) g1 (by omega)) (by rw [pst_len]; exact hp) e
        rw [pst_len] at k4
        have k2 : s1.1 ≤ s'.1 := k2
        have k3 : s1.2.1 ≤ s'.2.1 := k3
        have k4 : (s'.2.2.length : Int) - 2 * s'.2.1 ≤ (s1.2.2.length : Int) + 1 - 2 * s1.2.1 := k4
        exact ⟨k1, by omega, by omega, by omega⟩
    · cases e
      exact ⟨h, Int.le_refl _, Int.le_refl _, Int.le_refl _⟩
theorem sSm_g (hth : thG th z) : thG (sSm th T z) z := by
  intro s s' h e
  unfold sSm at e
  split at e
  · cases e
  · rename_i s1 e1
    obtain ⟨g1, ⟨u1, u2, u3⟩, g3⟩ := pPr_g hth s s1 h e1
    have hl := h.2.2.2.2
    obtain ⟨k1, k2, k3, k4⟩ := sLp_g hth 30 s1 s' g1 (by omega) e
    exact ⟨k1, ⟨by omega, by omega, by omega⟩, g3⟩
/-- with a thing more each time, so many rounds are enough -/
theorem pLp_n (hth : thG th z) : ∀ (n n' : Nat) (s : LwS), LGd z s → (s.2.2.length : Int) + 1 ≤ 2 * s.2.1 → 31 - s.2.1 ≤ n → 31 - s.2.1 ≤ n' → pLp th T z n s = pLp th T z n' s
  | 0, n', s, h, _, h1, _ => by
    have := h.2.2.2.1
    omega
  | n + 1, 0, s, h, _, _, h2 => by
    have := h.2.2.2.1
    omega
  | n + 1, n' + 1, s, h, hl, h1, h2 => by
    unfold pLp
    split
    · rename_i q
      have hz := nxb_lt (T := T) (z := z) (a := s.1) (by omega)
      cases e1 : th (s.1 + 1, s.2) with
      | none => rfl
      | some s1 =>
        obtain ⟨g1, g2, g3⟩ := hth (s.1 + 1, s.2) s1 ⟨by have := h.1; show 0 ≤ s.1 + 1; omega, by show s.1 + 1 ≤ z; omega, h.2.2⟩ e1
        obtain ⟨u1, u2, u3⟩ := g2
        have u2 : s.2.1 + 1 ≤ s1.2.1 := u2
        have u3 : (s1.2.2.length : Int) + 1 - 2 * s1.2.1 ≤ (s.2.2.length : Int) - 2 * s.2.1 := u3
        refine pLp_n hth n n' _ (LGd_pst (v := 11000 + nxb T z s.1) g1 (by omega)) (by rw [pst_len]; show (s1.2.2.length : Int) + 1 + 1 ≤ 2 * s1.2.1; omega) ?_ ?_
        · show 31 - s1.2.1 ≤ n
          omega
        · show 31 - s1.2.1 ≤ n'
          omega
    · rfl
theorem sLp_n (hth : thG th z) : ∀ (n n' : Nat) (s : LwS), LGd z s → (s.2.2.length : Int) + 1 ≤ 2 * s.2.1 → 31 - s.2.1 ≤ n → 31 - s.2.1 ≤ n' → sLp th T z n s = sLp th T z n' s
  | 0, n', s, h, _, h1, _ => by
    have := h.2.2.2.1
    omega
  | n + 1, 0, s, h, _, _, h2 => by
    have := h.2.2.2.1
    omega
  | n + 1, n' + 1, s, h, hl, h1, h2 => by
    unfold sLp
    split
    · rename_i q
      have hz := nxb_lt (T := T) (z := z) (a := s.1) (by omega)
      cases e1 : pPr th T z (s.1 + 1, s.2) with
      | none => rfl
      | some s1 =>
        obtain ⟨g1, g2, g3⟩ := pPr_g hth (s.1 + 1, s.2) s1 ⟨by have := h.1; show 0 ≤ s.1 + 1; omega, by show s.1 + 1 ≤ z; omega, h.2.2⟩ e1
        obtain ⟨u1, u2, u3⟩ := g2
        have u2 : s.2.1 + 1 ≤ s1.2.1 := u2
        have u3 : (s1.2.2.length : Int) + 1 - 2 * s1.2.1 ≤ (s.2.2.length : Int) - 2 * s.2.1 := u3
        refine sLp_n hth n n' _ (LGd_pst (v := 11000 + nxb T z s.1) g1 (by omega)) (by rw [pst_len]; show (s1.2.2.length : Int) + 1 + 1 ≤ 2 * s1.2.1; omega) ?_ ?_
        · show 31 - s1.2.1 ≤ n
          omega
        · show 31 - s1.2.1 ≤ n'
          omega
    · rfl
end LP
theorem app_len {l : List Int} {v : Int} : ((l ++ [v]).length : Int) = l.length + 1 := by
  rw [List.length_append]
  show ((l.length + 1 : Nat) : Int) = _
  omega
theorem lwTh_g {T : Int → Int} {z : Int} : ∀ m : Nat, thG (lwTh T z m) z
  | 0, s, s', h, e => by cases e
  | m + 1, s, s', h, e => by
    obtain ⟨a, b, c, d, l⟩ := h
    unfold lwTh at e
    split at e
    · cases e
    · rename_i q30
      split at e
      · rename_i q40
        have hz := nxb_lt (T := T) (z := z) (a := s.1) (by omega)
        split at e
        · cases e
        · rename_i s1 e1
          obtain ⟨g1, ⟨u1, u2, u3⟩, g3⟩ := sSm_g (lwTh_g m) (s.1 + 1, s.2.1 + 1, s.2.2) s1 ⟨by show 0 ≤ s.1 + 1; omega, by show s.1 + 1 ≤ z; omega, by show 0 ≤ s.2.1 + 1; omega, by show s.2.1 + 1 ≤ 30; omega, by show (s.2.2.length : Int) ≤ 2 * (s.2.1 + 1); omega⟩ e1
          have u1 : s.1 + 1 < s1.1 := u1
          have u2 : s.2.1 + 1 + 1 ≤ s1.2.1 := u2
          have u3 : (s1.2.2.length : Int) + 1 - 2 * s1.2.1 ≤ (s.2.2.length : Int) - 2 * (s.2.1 + 1) := u3
          obtain ⟨k1, k2, k3, k4, k5⟩ := g1
          split at e
          · rename_i q41
            have hz1 := nxb_lt (T := T) (z := z) (a := s1.1) (by omega)
            cases e
            exact ⟨⟨by show 0 ≤ s1.1 + 1; omega, by show s1.1 + 1 ≤ z; omega, k3, k4, k5⟩, ⟨by show s.1 < s1.1 + 1; omega, by show s.2.1 + 1 ≤ s1.2.1; omega, by show (s1.2.2.length : Int) + 1 - 2 * s1.2.1 ≤ (s.2.2.length : Int) - 2 * s.2.1; omega⟩, by omega⟩
          · cases e
      · have one : ∀ (p v : Int), s.1 < p → p ≤ z → LGd z (p, s.2.1 + 1, s.2.2 ++ [v]) ∧ upo s (p, s.2.1 + 1, s.2.2 ++ [v]) ∧ s.2.1 < 30 := fun p v h1 h2 => ⟨⟨by show 0 ≤ p; omega, h2, by show 0 ≤ s.2.1 + 1; omega, by show s.2.1 + 1 ≤ 30; omega, by show (((s.2.2 ++ [v]).length : Nat) : Int) ≤ 2 * (s.2.1 + 1); rw [app_len]; omega⟩, ⟨h1, Int.le_refl _, by show (((s.2.2 ++ [v]).length : Nat) : Int) + 1 - 2 * (s.2.1 + 1) ≤ _; rw [app_len]; omega⟩, by omega⟩
        split at e
        · rename_i qd
          have hz := nxb_lt (T := T) (z := z) (a := s.1) (by omega)
          split at e
          · cases e
          · cases e
            refine one _ _ ?_ ?_
            · have e2 : dgt T z 4 s.1 0 = dgt T z 3 (s.1 + 1) (0 * 10 + nxb T z s.1 - 48) := if_pos qd
              rw [e2]
              have := (dgt_b (T := T) (z := z) 3 (s.1 + 1) (0 * 10 + nxb T z s.1 - 48) (by omega)).1
              omega
            · exact (dgt_b 4 s.1 0 b).2
        · split at e
          · have hz := nxb_lt (T := T) (z := z) (a := s.1) (by omega)
            cases e
            exact one _ _ (by omega) (by omega)
          · split at e
            · have hz := nxb_lt (T := T) (z := z) (a := s.1) (by omega)
              cases e
              exact one _ _ (by omega) (by omega)
            · split at e
              · have hz := nxb_lt (T := T) (z := z) (a := s.1) (by omega)
                cases e
                exact one _ _ (by omega) (by omega)
              · cases e
theorem lwTh_par {T : Int → Int} {z : Int} (m : Nat) (s : LwS) (h30 : s.2.1 < 30) (h : nxb T z s.1 = 40) : lwTh T z (m + 1) s = (match sSm (lwTh T z m) T z (s.1 + 1, s.2.1 + 1, s.2.2) with
    | none => none
    | some s1 => if nxb T z s1.1 = 41 then some (s1.1 + 1, s1.2) else none) := by
  show (if 30 ≤ s.2.1 then none else if nxb T z s.1 = 40 then (match sSm (lwTh T z m) T z (s.1 + 1, s.2.1 + 1, s.2.2) with
    | none => none
    | some s1 => if nxb T z s1.1 = 41 then some (s1.1 + 1, s1.2) else none) else _) = _
  rw [if_neg (by omega), if_pos h]
/-! the same, as a machine that holds signs -/
/-- behind a thing: what comes yet at one level -/
def kB (T : Int → Int) (z : Int) (su pr : Int) (m : Nat) (s : LwS) : Option LwS := match pLp (lwTh T z m) T z 30 (if pr = 0 then s else pst s (11000 + pr)) with
  | none => none
  | some s2 => sLp (lwTh T z m) T z 30 (if su = 0 then s2 else pst s2 (11000 + su))
/-- behind a thing: o opened, with signs that wait -/
def kA (T : Int → Int) (z : Int) (su pr : Int → Int) : Nat → LwS → Option (Int × List Int)
  | 0, s => match kB T z (su 0) (pr 0) 8 s with
    | none => none
    | some s4 => if s4.1 < z then none else some s4.2
  | o + 1, s => match kB T z (su ((o : Int) + 1)) (pr ((o : Int) + 1)) (7 - o) s with
    | none => none
    | some s4 => if nxb T z s4.1 = 41 then kA T z su pr o (s4.1 + 1, s4.2) else none
/-- ahead of a thing -/
def kE (T : Int → Int) (z : Int) (su pr : Int → Int) (o : Nat) (s : LwS) : Option (Int × List Int) := match lwTh T z (8 - o) s with
  | none => none
  | some s1 => kA T z su pr o s1
/-- the end of a level -/
def kZ (T : Int → Int) (z : Int) (su pr : Int → Int) : Nat → LwS → Option (Int × List Int)
  | 0, s4 => if s4.1 < z then none else some s4.2
  | o + 1, s4 => if nxb T z s4.1 = 41 then kA T z su pr o (s4.1 + 1, s4.2) else none
section KA
variable {T : Int → Int} {z : Int} {su pr su' pr' : Int → Int}
theorem kA_eq (o : Nat) (s : LwS) : kA T z su pr o s = (match kB T z (su o) (pr o) (8 - o) s with
    | none => none
    | some s4 => kZ T z su pr o s4) := by
  match o with
  | 0 => rfl
  | o + 1 =>
    have e : 8 - (o + 1) = 7 - o := by omega
    rw [e]
    rfl
theorem kA_congr : ∀ (o : Nat) (s : LwS), (∀ j : Int, 0 ≤ j → j ≤ o → su' j = su j ∧ pr' j = pr j) → kA T z su' pr' o s = kA T z su pr o s
  | 0, s, h => by
    have := h 0 (Int.le_refl _) (Int.le_refl _)
    unfold kA
    rw [this.1, this.2]
  | o + 1, s, h => by
    have := h ((o : Int) + 1) (by omega) (by omega)
    unfold kA
    rw [this.1, this.2]
    cases kB T z (su ((o : Int) + 1)) (pr ((o : Int) + 1)) (7 - o) s with
    | none => rfl
    | some s4 =>
      show (if nxb T z s4.1 = 41 then kA T z su' pr' o (s4.1 + 1, s4.2) else none) = if nxb T z s4.1 = 41 then kA T z su pr o (s4.1 + 1, s4.2) else none
      rw [kA_congr o _ (fun j j0 j1 => h j j0 (by omega))]
theorem kZ_congr (o : Nat) (s : LwS) (h : ∀ j : Int, 0 ≤ j → j < o → su' j = su j ∧ pr' j = pr j) : kZ T z su' pr' o s = kZ T z su pr o s := by
  match o, h with
  | 0, h => rfl
  | o + 1, h =>
    show (if nxb T z s.1 = 41 then kA T z su' pr' o (s.1 + 1, s.2) else none) = if nxb T z s.1 = 41 then kA T z su pr o (s.1 + 1, s.2) else none
    rw [kA_congr o _ (fun j j0 j1 => h j j0 (by omega))]
theorem kE_congr (o : Nat) (s : LwS) (h : ∀ j : Int, 0 ≤ j → j ≤ o → su' j = su j ∧ pr' j = pr j) : kE T z su' pr' o s = kE T z su pr o s := by
  unfold kE
  cases lwTh T z (8 - o) s with
  | none => rfl
  | some s1 => exact kA_congr o s1 h
/-- the signs of the last level alone, and the levels below -/
theorem kA_of (o : Nat) (s : LwS) (h : ∀ j : Int, 0 ≤ j → j < o → su' j = su j ∧ pr' j = pr j) : kA T z su' pr' o s = (match kB T z (su' o) (pr' o) (8 - o) s with
    | none => none
    | some s4 => kZ T z su pr o s4) := by
  rw [kA_eq]
  cases kB T z (su' o) (pr' o) (8 - o) s with
  | none => rfl
  | some s4 => exact kZ_congr o s4 h
theorem kE_none (o : Nat) (s : LwS) (h : 30 ≤ s.2.1 ∨ o = 8 ∨ ¬ (nxb T z s.1 = 40 ∨ isD (nxb T z s.1) ∨ nxb T z s.1 = 115 ∨ nxb T z s.1 = 111 ∨ nxb T z s.1 = 99)) : kE T z su pr o s = none := by
  have e : lwTh T z (8 - o) s = none := by
    cases hm : 8 - o with
    | zero => rfl
    | succ m =>
      unfold lwTh
      rcases h with h | h | h
      · rw [if_pos h]
      · omega
      · by_cases c : 30 ≤ s.2.1
        · rw [if_pos c]
        · rw [if_neg c, if_neg (fun q => h (Or.inl q)), if_neg (fun q => h (Or.inr (Or.inl q))), if_neg (fun q => h (Or.inr (Or.inr (Or.inl q)))), if_neg (fun q => h (Or.inr (Or.inr (Or.inr (Or.inl q))))), if_neg (fun q => h (Or.inr (Or.inr (Or.inr (Or.inr q)))))]
  unfold kE
  rw [e]
theorem kE_open (o : Nat) (ho : o ≤ 7) (s : LwS) (h30 : s.2.1 < 30) (h : nxb T z s.1 = 40) (hb : ∀ j : Int, 0 ≤ j → j ≤ o → su' j = su j ∧ pr' j = pr j) (h0 : su' ((o : Int) + 1) = 0) (h1 : pr' ((o : Int) + 1) = 0) : kE T z su pr o s = kE T z su' pr' (o + 1) (s.1 + 1, s.2.1 + 1, s.2.2) := by
  have e8 : 8 - o = (7 - o) + 1 := by omega
  have e7 : 8 - (o + 1) = 7 - o := by omega
  unfold kE
  rw [e8, e7, lwTh_par (7 - o) s h30 h]
  unfold sSm pPr
  cases h2 : lwTh T z (7 - o) (s.1 + 1, s.2.1 + 1, s.2.2) with
  | none => rfl
  | some s1 =>
    show (match (match (match pLp (lwTh T z (7 - o)) T z 30 s1 with
      | none => none
      | some s1 => sLp (lwTh T z (7 - o)) T z 30 s1) with
      | none => none
      | some s1 => if nxb T z s1.1 = 41 then some (s1.1 + 1, s1.2) else none) with
      | none => none
      | some s1 => kA T z su pr o s1) = kA T z su' pr' (o + 1) s1
    have eR : kA T z su' pr' (o + 1) s1 = (match kB T z (su' ((o : Int) + 1)) (pr' ((o : Int) + 1)) (7 - o) s1 with
      | none => none
      | some s4 => if nxb T z s4.1 = 41 then kA T z su' pr' o (s4.1 + 1, s4.2) else none) := rfl
    rw [eR]
    unfold kB
    rw [h0, h1, if_pos rfl]
    cases pLp (lwTh T z (7 - o)) T z 30 s1 with
    | none => rfl
    | some s2 =>
      show (match (match sLp (lwTh T z (7 - o)) T z 30 s2 with
        | none => none
        | some s1 => if nxb T z s1.1 = 41 then some (s1.1 + 1, s1.2) else none) with
        | none => none
        | some s1 => kA T z su pr o s1) = (match sLp (lwTh T z (7 - o)) T z 30 (if (0 : Int) = 0 then s2 else pst s2 (11000 + 0)) with
        | none => none
        | some s4 => if nxb T z s4.1 = 41 then kA T z su' pr' o (s4.1 + 1, s4.2) else none)
      rw [if_pos rfl]
      cases sLp (lwTh T z (7 - o)) T z 30 s2 with
      | none => rfl
      | some s4 =>
        show (match (if nxb T z s4.1 = 41 then some ((s4.1 + 1, s4.2) : LwS) else none) with
          | none => none
          | some s1 => kA T z su pr o s1) = if nxb T z s4.1 = 41 then kA T z su' pr' o (s4.1 + 1, s4.2) else none
        by_cases c : nxb T z s4.1 = 41
        · rw [if_pos c, if_pos c]
          exact (kA_congr o _ hb).symm
        · rw [if_neg c, if_neg c]
theorem kE_one (o : Nat) (ho : o ≤ 7) (s : LwS) (h30 : s.2.1 < 30) : (isD (nxb T z s.1) → kE T z su pr o s = if isD (nxb T z (dgt T z 4 s.1 0).1) then none else kA T z su pr o ((dgt T z 4 s.1 0).1, s.2.1 + 1, s.2.2 ++ [(dgt T z 4 s.1 0).2])) ∧ (nxb T z s.1 = 115 → kE T z su pr o s = kA T z su pr o (s.1 + 1, s.2.1 + 1, s.2.2 ++ [10000])) ∧ (nxb T z s.1 = 111 → kE T z su pr o s = kA T z su pr o (s.1 + 1, s.2.1 + 1, s.2.2 ++ [10001])) ∧ (nxb T z s.1 = 99 → kE T z su pr o s = kA T z su pr o (s.1 + 1, s.2.1 + 1, s.2.2 ++ [10002])) := by
  have e8 : 8 - o = (7 - o) + 1 := by omega
  unfold kE
  rw [e8]
  unfold lwTh
  rw [if_neg (by omega)]
  refine ⟨fun h => ?_, fun h => ?_, fun h => ?_, fun h => ?_⟩
  · rw [if_neg (by omega), if_pos h]
    by_cases c : isD (nxb T z (dgt T z 4 s.1 0).1)
    · rw [if_pos c, if_pos c]
    · rw [if_neg c, if_neg c]
  · rw [if_neg (by omega), if_neg (by omega), if_pos h]
  · rw [if_neg (by omega), if_neg (by omega), if_neg (by omega), if_pos h]
  · rw [if_neg (by omega), if_neg (by omega), if_neg (by omega), if_neg (by omega), if_pos h]
theorem pLp_stop {th : LwS → Option LwS} {n : Nat} {s : LwS} (h : ¬ isP (nxb T z s.1)) : pLp th T z n s = some s := by
  cases n with
  | zero => rfl
  | succ n => exact if_neg h
theorem sLp_stop {th : LwS → Option LwS} {n : Nat} {s : LwS} (h : ¬ isS (nxb T z s.1)) : sLp th T z n s = some s := by
  cases n with
  | zero => rfl
  | succ n => exact if_neg h
theorem kA_prod (o : Nat) (s : LwS) (hp : pr o ≠ 0) (hb : ∀ j : Int, 0 ≤ j → j < o → pr' j = pr j) (h0 : pr' o = 0) : kA T z su pr o s = kA T z su pr' o (pst s (11000 + pr o)) := by
  rw [kA_eq, kA_of (su := su) (pr := pr) (su' := su) (pr' := pr') o _ (fun j a b => ⟨rfl, hb j a b⟩)]
  unfold kB
  rw [if_neg hp, h0, if_pos rfl]
theorem kA_sum (o : Nat) (s : LwS) (hp : pr o = 0) (hs : su o ≠ 0) (hP : ¬ isP (nxb T z s.1)) (hb : ∀ j : Int, 0 ≤ j → j < o → su' j = su j) (h0 : su' o = 0) : kA T z su pr o s = kA T z su' pr o (pst s (11000 + su o)) := by
  rw [kA_eq, kA_of (su := su) (pr := pr) (su' := su') (pr' := pr) o _ (fun j a b => ⟨hb j a b, rfl⟩)]
  unfold kB
  rw [hp, if_pos rfl, if_pos rfl, pLp_stop hP, pLp_stop (s := pst s (11000 + su o)) hP]
  show (match sLp (lwTh T z (8 - o)) T z 30 (if su o = 0 then s else pst s (11000 + su o)) with
    | none => none
    | some s4 => kZ T z su pr o s4) = match sLp (lwTh T z (8 - o)) T z 30 (if su' o = 0 then pst s (11000 + su o) else pst (pst s (11000 + su o)) (11000 + su' o)) with
    | none => none
    | some s4 => kZ T z su pr o s4
  rw [if_neg hs, h0, if_pos rfl]
theorem kA_more (o : Nat) (s : LwS) (hg : LGd z s) (hl : (s.2.2.length : Int) + 1 ≤ 2 * s.2.1) (ht : 1 ≤ s.2.1) (hp : pr o = 0) (hP : isP (nxb T z s.1)) (hb : ∀ j : Int, 0 ≤ j → j < o → pr' j = pr j) (h0 : pr' o = nxb T z s.1) : kA T z su pr o s = kE T z su pr' o (s.1 + 1, s.2) := by
  have hz := nxb_lt (T := T) (z := z) (a := s.1) (by omega)
  rw [kA_eq]
  unfold kE kB
  rw [hp, if_pos rfl, show (30 : Nat) = 29 + 1 from rfl]
  unfold pLp
  rw [if_pos hP]
  cases e1 : lwTh T z (8 - o) (s.1 + 1, s.2) with
  | none => rfl
  | some s1 =>
    obtain ⟨g1, g2, g3⟩ := lwTh_g (8 - o) (s.1 + 1, s.2) s1 ⟨by have := hg.1; show 0 ≤ s.1 + 1; omega, by show s.1 + 1 ≤ z; omega, hg.2.2⟩ e1
    obtain ⟨u1, u2, u3⟩ := g2
    have u2 : s.2.1 + 1 ≤ s1.2.1 := u2
    have u3 : (s1.2.2.length : Int) + 1 - 2 * s1.2.1 ≤ (s.2.2.length : Int) - 2 * s.2.1 := u3
    show _ = kA T z su pr' o s1
    rw [kA_of (su := su) (pr := pr) (su' := su) (pr' := pr') o _ (fun j a b => ⟨rfl, hb j a b⟩)]
    unfold kB
    rw [h0, if_neg (by omega)]
    have e2 := pLp_n (T := T) (lwTh_g (T := T) (z := z) (8 - o)) 29 (29 + 1) (pst s1 (11000 + nxb T z s.1)) (LGd_pst g1 (by omega)) (by rw [pst_len]; show (s1.2.2.length : Int) + 1 + 1 ≤ 2 * s1.2.1; omega) (by show 31 - s1.2.1 ≤ ((29 : Nat) : Int); omega) (by show 31 - s1.2.1 ≤ ((29 + 1 : Nat) : Int); omega)
    show (match (match pLp (lwTh T z (8 - o)) T z 29 (pst s1 (11000 + nxb T z s.1)) with
      | none => none
      | some s2 => sLp (lwTh T z (8 - o)) T z (29 + 1) (if su o = 0 then s2 else pst s2 (11000 + su o))) with
      | none => none
      | some s4 => kZ T z su pr o s4) = _
    rw [e2]
theorem kA_plus (o : Nat) (s : LwS) (hg : LGd z s) (hl : (s.2.2.length : Int) + 1 ≤ 2 * s.2.1) (ht : 1 ≤ s.2.1) (hp : pr o = 0) (hs : su o = 0) (hS : isS (nxb T z s.1)) (hb : ∀ j : Int, 0 ≤ j → j < o → su' j = su j) (h0 : su' o = nxb T z s.1) : kA T z su pr o s = kE T z su' pr o (s.1 + 1, s.2) := by
  have hz := nxb_lt (T := T) (z := z) (a := s.1) (by omega)
  rw [kA_eq]
  unfold kE kB
  rw [hp, if_pos rfl, pLp_stop (by omega)]
  show (match sLp (lwTh T z (8 - o)) T z 30 (if su o = 0 then s else pst s (11000 + su o)) with
    | none => none
    | some s4 => kZ T z su pr o s4) = _
  rw [hs, if_pos rfl, show (30 : Nat) = 29 + 1 from rfl]
  unfold sLp
  rw [if_pos hS]
  unfold pPr
  cases e1 : lwTh T z (8 - o) (s.1 + 1, s.2) with
  | none => rfl
  | some s1 =>
    obtain ⟨g1, g2, g3⟩ := lwTh_g (8 - o) (s.1 + 1, s.2) s1 ⟨by have := hg.1; show 0 ≤ s.1 + 1; omega, by show s.1 + 1 ≤ z; omega, hg.2.2⟩ e1
    obtain ⟨u1, u2, u3⟩ := g2
    have u2 : s.2.1 + 1 ≤ s1.2.1 := u2
    have u3 : (s1.2.2.length : Int) + 1 - 2 * s1.2.1 ≤ (s.2.2.length : Int) - 2 * s.2.1 := u3
    show _ = kA T z su' pr o s1
    rw [kA_of (su := su) (pr := pr) (su' := su') (pr' := pr) o _ (fun j a b => ⟨hb j a b, rfl⟩)]
    unfold kB
    rw [hp, if_pos rfl, h0]
    show (match (match pLp (lwTh T z (8 - o)) T z 30 s1 with
      | none => none
      | some s1 => sLp (lwTh T z (8 - o)) T z 29 (pst s1 (11000 + nxb T z s.1))) with
      | none => none
      | some s4 => kZ T z su pr o s4) = (match (match pLp (lwTh T z (8 - o)) T z 30 s1 with
      | none => none
      | some s2 => sLp (lwTh T z (8 - o)) T z 30 (if nxb T z s.1 = 0 then s2 else pst s2 (11000 + nxb T z s.1))) with
      | none => none
      | some s4 => kZ T z su pr o s4)
    cases e3 : pLp (lwTh T z (8 - o)) T z 30 s1 with
    | none => rfl
    | some s2 =>
      obtain ⟨k1, k2, k3, k4⟩ := pLp_g (lwTh_g (T := T) (z := z) (8 - o)) 30 s1 s2 g1 (by omega) e3
      have e2 := sLp_n (T := T) (lwTh_g (T := T) (z := z) (8 - o)) 29 30 (pst s2 (11000 + nxb T z s.1)) (LGd_pst k1 (by omega)) (by rw [pst_len]; show (s2.2.2.length : Int) + 1 + 1 ≤ 2 * s2.2.1; omega) (by show 31 - s2.2.1 ≤ ((29 : Nat) : Int); omega) (by show 31 - s2.2.1 ≤ ((30 : Nat) : Int); omega)
      show (match sLp (lwTh T z (8 - o)) T z 29 (pst s2 (11000 + nxb T z s.1)) with
        | none => none
        | some s4 => kZ T z su pr o s4) = (match sLp (lwTh T z (8 - o)) T z 30 (if nxb T z s.1 = 0 then s2 else pst s2 (11000 + nxb T z s.1)) with
        | none => none
        | some s4 => kZ T z su pr o s4)
      rw [if_neg (by omega), e2]
theorem kA_stop (o : Nat) (s : LwS) (hp : pr o = 0) (hs : su o = 0) (hP : ¬ isP (nxb T z s.1)) (hS : ¬ isS (nxb T z s.1)) : kA T z su pr o s = kZ T z su pr o s := by
  rw [kA_eq]
  unfold kB
  rw [hp, if_pos rfl, pLp_stop hP]
  show (match sLp (lwTh T z (8 - o)) T z 30 (if su o = 0 then s else pst s (11000 + su o)) with
    | none => none
    | some s4 => kZ T z su pr o s4) = _
  rw [hs, if_pos rfl, sLp_stop hS]
theorem kE_all (hz : 0 < z) (h0 : su 0 = 0) (h1 : pr 0 = 0) : kE T z su pr 0 (0, 0, []) = lwAll T z := by
  unfold kE lwAll sSm pPr
  rw [if_neg (by omega)]
  show (match lwTh T z 8 (0, 0, []) with
    | none => none
    | some s1 => kA T z su pr 0 s1) = _
  cases lwTh T z 8 (0, 0, []) with
  | none => rfl
  | some s1 =>
    show kA T z su pr 0 s1 = _
    unfold kA kB
    rw [h0, h1, if_pos rfl]
    show (match (match pLp (lwTh T z 8) T z 30 s1 with
      | none => none
      | some s2 => sLp (lwTh T z 8) T z 30 (if (0 : Int) = 0 then s2 else pst s2 (11000 + 0))) with
      | none => none
      | some s4 => if s4.1 < z then none else some s4.2) = (match (match pLp (lwTh T z 8) T z 30 s1 with
      | none => none
      | some s1 => sLp (lwTh T z 8) T z 30 s1) with
      | none => none
      | some s => if s.1 < z then none else some s.2)
    cases pLp (lwTh T z 8) T z 30 s1 with
    | none => rfl
    | some s2 => rfl
end KA
/-! the class's loops -/
def tkR (f : LwS → Option LwS) (s s' : LwS) (w n : Int) : Prop := (w = 1 ∧ f s = some s') ∨ (w = 0 ∧ f s = none) ∨ (w = 1 ∧ f s = none ∧ isD n)
def lpI (L : Nat → LwS → Option LwS) (T : Int → Int) (z : Int) (o : Option LwS) (w i : Int) (s : LwS) : Prop := (w = 1 ∧ LGd z s ∧ (s.2.2.length : Int) + 1 ≤ 2 * s.2.1 ∧ o = L (30 - i).toNat s) ∨ (w = 0 ∧ o = none) ∨ (w = 1 ∧ o = none ∧ isD (nxb T z s.1))
def exR (o : Option LwS) (s : LwS) (w n : Int) : Prop := (w = 1 ∧ o = some s) ∨ (w = 0 ∧ o = none) ∨ (w = 1 ∧ o = none ∧ isD n)
section LPI
variable {f : LwS → Option LwS} {T : Int → Int} {z : Int} {o : Option LwS} {w i : Int} {s s2 : LwS}
theorem lpI_ent_p (hf : thG f z) (hg : LGd z s) (h : tkR f s s2 w (nxb T z s2.1)) : lpI (pLp f T z) T z (pPr f T z s) w 0 s2 := by
  unfold pPr
  rcases h with ⟨a, b⟩ | ⟨a, b⟩ | ⟨a, b, c⟩
  · rw [b]
    obtain ⟨g1, ⟨u1, u2, u3⟩, g3⟩ := hf s s2 hg b
    have := hg.2.2.2.2
    exact Or.inl ⟨a, g1, by omega, rfl⟩
  · rw [b]
    exact Or.inr (Or.inl ⟨a, rfl⟩)
  · rw [b]
    exact Or.inr (Or.inr ⟨a, rfl, c⟩)
theorem lpI_ent_s (hf : thG f z) (hg : LGd z s) (h : tkR (pPr f T z) s s2 w (nxb T z s2.1)) : lpI (sLp f T z) T z (sSm f T z s) w 0 s2 := by
  unfold sSm
  rcases h with ⟨a, b⟩ | ⟨a, b⟩ | ⟨a, b, c⟩
  · rw [b]
    obtain ⟨g1, ⟨u1, u2, u3⟩, g3⟩ := pPr_g hf s s2 hg b
    have := hg.2.2.2.2
    exact Or.inl ⟨a, g1, by omega, rfl⟩
  · rw [b]
    exact Or.inr (Or.inl ⟨a, rfl⟩)
  · rw [b]
    exact Or.inr (Or.inr ⟨a, rfl, c⟩)
theorem lpI_out_p (h : lpI (pLp f T z) T z o w i s) (hx : 30 ≤ i ∨ w = 0 ∨ ¬ isP (nxb T z s.1)) : exR o s w (nxb T z s.1) := by
  rcases h with ⟨a, b, c, d⟩ | h | h
  · refine Or.inl ⟨a, ?_⟩
    rw [d]
    rcases hx with hx | hx | hx
    · rw [show (30 - i).toNat = 0 by omega]
      rfl
    · omega
    · exact pLp_stop hx
  · exact Or.inr (Or.inl h)
  · exact Or.inr (Or.inr h)
theorem lpI_out_s (h : lpI (sLp f T z) T z o w i s) (hx : 30 ≤ i ∨ w = 0 ∨ ¬ isS (nxb T z s.1)) : exR o s w (nxb T z s.1) := by
  rcases h with ⟨a, b, c, d⟩ | h | h
  · refine Or.inl ⟨a, ?_⟩
    rw [d]
    rcases hx with hx | hx | hx
    · rw [show (30 - i).toNat = 0 by omega]
      rfl
    · omega
    · exact sLp_stop hx
  · exact Or.inr (Or.inl h)
  · exact Or.inr (Or.inr h)
theorem lpI_in_p (h : lpI (pLp f T z) T z o w i s) (i1 : i < 30) (hw : ¬ w = 0) (hP : isP (nxb T z s.1)) : LGd z (s.1 + 1, s.2) ∧ o = (match f (s.1 + 1, s.2) with
    | none => none
    | some s1 => pLp f T z (30 - (i + 1)).toNat (pst s1 (11000 + nxb T z s.1))) := by
  have hz := nxb_lt (T := T) (z := z) (a := s.1) (by omega)
  rcases h with ⟨a, b, c, d⟩ | h | h
  · refine ⟨⟨by have := b.1; show 0 ≤ s.1 + 1; omega, by show s.1 + 1 ≤ z; omega, b.2.2⟩, ?_⟩
    rw [d, show (30 - i).toNat = (30 - (i + 1)).toNat + 1 by omega]
    exact if_pos hP
  · exact (hw h.1).elim
  · omega
theorem lpI_in_s (h : lpI (sLp f T z) T z o w i s) (i1 : i < 30) (hw : ¬ w = 0) (hP : isS (nxb T z s.1)) : LGd z (s.1 + 1, s.2) ∧ o = (match pPr f T z (s.1 + 1, s.2) with
    | none => none
    | some s1 => sLp f T z (30 - (i + 1)).toNat (pst s1 (11000 + nxb T z s.1))) := by
  have hz := nxb_lt (T := T) (z := z) (a := s.1) (by omega)
  rcases h with ⟨a, b, c, d⟩ | h | h
  · refine ⟨⟨by have := b.1; show 0 ≤ s.1 + 1; omega, by show s.1 + 1 ≤ z; omega, b.2.2⟩, ?_⟩
    rw [d, show (30 - i).toNat = (30 - (i + 1)).toNat + 1 by omega]
    exact if_pos hP
  · exact (hw h.1).elim
  · omega
theorem lpI_next_p {v n : Int} (hf : thG f z) (hg : LGd z (s.1 + 1, s.2)) (ho : o = (match f (s.1 + 1, s.2) with
    | none => none
    | some s1 => pLp f T z (30 - (i + 1)).toNat (pst s1 v))) (h : tkR f (s.1 + 1, s.2) s2 w n) (hn : n = nxb T z s2.1) (ht : 1 ≤ s.2.1) (hl : (s.2.2.length : Int) + 1 ≤ 2 * s.2.1) : lpI (pLp f T z) T z o w (i + 1) (pst s2 v) := by
  subst hn
  rcases h with ⟨a, b⟩ | ⟨a, b⟩ | ⟨a, b, c⟩
  · rw [b] at ho
    obtain ⟨g1, ⟨u1, u2, u3⟩, g3⟩ := hf _ s2 hg b
    have u2 : s.2.1 + 1 ≤ s2.2.1 := u2
    have u3 : (s2.2.2.length : Int) + 1 - 2 * s2.2.1 ≤ (s.2.2.length : Int) - 2 * s.2.1 := u3
    exact Or.inl ⟨a, LGd_pst g1 (by omega), by rw [pst_len]; show (s2.2.2.length : Int) + 1 + 1 ≤ 2 * s2.2.1; omega, ho⟩
  · rw [b] at ho
    exact Or.inr (Or.inl ⟨a, ho⟩)
  · rw [b] at ho
    exact Or.inr (Or.inr ⟨a, ho, c⟩)
theorem lpI_next_s {v n : Int} (hf : thG f z) (hg : LGd z (s.1 + 1, s.2)) (ho : o = (match pPr f T z (s.1 + 1, s.2) with
    | none => none
    | some s1 => sLp f T z (30 - (i + 1)).toNat (pst s1 v))) (h : tkR (pPr f T z) (s.1 + 1, s.2) s2 w n) (hn : n = nxb T z s2.1) (ht : 1 ≤ s.2.1) (hl : (s.2.2.length : Int) + 1 ≤ 2 * s.2.1) : lpI (sLp f T z) T z o w (i + 1) (pst s2 v) := by
  subst hn
  rcases h with ⟨a, b⟩ | ⟨a, b⟩ | ⟨a, b, c⟩
  · rw [b] at ho
    obtain ⟨g1, ⟨u1, u2, u3⟩, g3⟩ := pPr_g hf _ s2 hg b
    have u2 : s.2.1 + 1 ≤ s2.2.1 := u2
    have u3 : (s2.2.2.length : Int) + 1 - 2 * s2.2.1 ≤ (s.2.2.length : Int) - 2 * s.2.1 := u3
    exact Or.inl ⟨a, LGd_pst g1 (by omega), by rw [pst_len]; show (s2.2.2.length : Int) + 1 + 1 ≤ 2 * s2.2.1; omega, ho⟩
  · rw [b] at ho
    exact Or.inr (Or.inl ⟨a, ho⟩)
  · rw [b] at ho
    exact Or.inr (Or.inr ⟨a, ho, c⟩)
/-- behind one thing at least, whatever it is -/
theorem lpI_room {L' : Nat → LwS → Option LwS} (h : lpI L' T z o w i s) (hw : ¬ w = 0) (hd : ¬ isD (nxb T z s.1)) : LGd z s ∧ (s.2.2.length : Int) + 1 ≤ 2 * s.2.1 := by
  rcases h with ⟨a, b, c, d⟩ | h | h
  · exact ⟨b, c⟩
  · exact (hw h.1).elim
  · exact (hd h.2.2).elim
end LPI
theorem lwTh_eq {T : Int → Int} {z : Int} (m : Nat) (s : LwS) (h30 : s.2.1 < 30) : (nxb T z s.1 = 40 → lwTh T z (m + 1) s = (match sSm (lwTh T z m) T z (s.1 + 1, s.2.1 + 1, s.2.2) with
    | none => none
    | some s1 => if nxb T z s1.1 = 41 then some (s1.1 + 1, s1.2) else none)) ∧ (isD (nxb T z s.1) → lwTh T z (m + 1) s = if isD (nxb T z (dgt T z 4 s.1 0).1) then none else some ((dgt T z 4 s.1 0).1, s.2.1 + 1, s.2.2 ++ [(dgt T z 4 s.1 0).2])) ∧ (nxb T z s.1 = 115 → lwTh T z (m + 1) s = some (s.1 + 1, s.2.1 + 1, s.2.2 ++ [10000])) ∧ (nxb T z s.1 = 111 → lwTh T z (m + 1) s = some (s.1 + 1, s.2.1 + 1, s.2.2 ++ [10001])) ∧ (nxb T z s.1 = 99 → lwTh T z (m + 1) s = some (s.1 + 1, s.2.1 + 1, s.2.2 ++ [10002])) ∧ (¬ (nxb T z s.1 = 40 ∨ isD (nxb T z s.1) ∨ nxb T z s.1 = 115 ∨ nxb T z s.1 = 111 ∨ nxb T z s.1 = 99) → lwTh T z (m + 1) s = none) := by
  unfold lwTh
  rw [if_neg (by omega)]
  refine ⟨fun h => if_pos h, fun h => ?_, fun h => ?_, fun h => ?_, fun h => ?_, fun h => ?_⟩
  · rw [if_neg (by omega), if_pos h]
  · rw [if_neg (by omega), if_neg (by omega), if_pos h]
  · rw [if_neg (by omega), if_neg (by omega), if_neg (by omega), if_pos h]
  · rw [if_neg (by omega), if_neg (by omega), if_neg (by omega), if_neg (by omega), if_pos h]
  · rw [if_neg (fun q => h (Or.inl q)), if_neg (fun q => h (Or.inr (Or.inl q))), if_neg (fun q => h (Or.inr (Or.inr (Or.inl q)))), if_neg (fun q => h (Or.inr (Or.inr (Or.inr (Or.inl q))))), if_neg (fun q => h (Or.inr (Or.inr (Or.inr (Or.inr q)))))]
theorem lwTh_30 {T : Int → Int} {z : Int} (m : Nat) (s : LwS) (h : 30 ≤ s.2.1) : lwTh T z m s = none := by
  cases m with
  | zero => rfl
  | succ m =>
    unfold lwTh
    exact if_pos h
/-! bytes that are the same -/
theorem nxb_cg {T T' : Int → Int} {z : Int} (h : ∀ a, 0 ≤ a → a < z → T' a = T a) (a : Int) : nxb T' z a = nxb T z a := by
  unfold nxb
  by_cases c : 0 ≤ a ∧ a < z
  · rw [if_pos c, if_pos c, h a c.1 c.2]
  · rw [if_neg c, if_neg c]
theorem dgt_cg {T T' : Int → Int} {z : Int} (h : ∀ a, nxb T' z a = nxb T z a) : ∀ (n : Nat) (a v : Int), dgt T' z n a v = dgt T z n a v
  | 0, _, _ => rfl
  | n + 1, a, v => by
    unfold dgt
    rw [h a, dgt_cg h n]
theorem pLp_cg {th : LwS → Option LwS} {T T' : Int → Int} {z : Int} (h : ∀ a, nxb T' z a = nxb T z a) : ∀ (n : Nat) (s : LwS), pLp th T' z n s = pLp th T z n s
  | 0, _ => rfl
  | n + 1, s => by
    unfold pLp
    rw [h s.1]
    cases th (s.1 + 1, s.2) with
    | none => rfl
    | some s1 =>
      show (if isP (nxb T z s.1) then pLp th T' z n (pst s1 (11000 + nxb T z s.1)) else some s) = if isP (nxb T z s.1) then pLp th T z n (pst s1 (11000 + nxb T z s.1)) else some s
      rw [pLp_cg h n]
theorem pPr_cg {th : LwS → Option LwS} {T T' : Int → Int} {z : Int} (h : ∀ a, nxb T' z a = nxb T z a) (s : LwS) : pPr th T' z s = pPr th T z s := by
  unfold pPr
  cases th s with
  | none => rfl
  | some s1 => exact pLp_cg h 30 s1
theorem sLp_cg {th : LwS → Option LwS} {T T' : Int → Int} {z : Int} (h : ∀ a, nxb T' z a = nxb T z a) : ∀ (n : Nat) (s : LwS), sLp th T' z n s = sLp th T z n s
  | 0, _ => rfl
  | n + 1, s => by
    unfold sLp
    rw [h s.1, pPr_cg h]
    cases pPr th T z (s.1 + 1, s.2) with
    | none => rfl
    | some s1 =>
      show (if isS (nxb T z s.1) then sLp th T' z n (pst s1 (11000 + nxb T z s.1)) else some s) = if isS (nxb T z s.1) then sLp th T z n (pst s1 (11000 + nxb T z s.1)) else some s
      rw [sLp_cg h n]
theorem sSm_cg {th : LwS → Option LwS} {T T' : Int → Int} {z : Int} (h : ∀ a, nxb T' z a = nxb T z a) (s : LwS) : sSm th T' z s = sSm th T z s := by
  unfold sSm
  rw [pPr_cg h]
  cases pPr th T z s with
  | none => rfl
  | some s1 => exact sLp_cg h 30 s1
theorem lwTh_cg {T T' : Int → Int} {z : Int} (h : ∀ a, nxb T' z a = nxb T z a) : ∀ m : Nat, lwTh T' z m = lwTh T z m
  | 0 => rfl
  | m + 1 => by
    funext s
    unfold lwTh
    rw [lwTh_cg h m, h s.1, sSm_cg h, dgt_cg h, h]
    cases sSm (lwTh T z m) T z (s.1 + 1, s.2.1 + 1, s.2.2) with
    | none => rfl
    | some s1 =>
      show (if 30 ≤ s.2.1 then none else if nxb T z s.1 = 40 then (if nxb T' z s1.1 = 41 then some ((s1.1 + 1, s1.2) : LwS) else none) else _) = _
      rw [h s1.1]
theorem lwAll_cg {T T' : Int → Int} {z : Int} (h : ∀ a, 0 ≤ a → a < z → T' a = T a) : lwAll T' z = lwAll T z := by
  unfold lwAll
  rw [lwTh_cg (nxb_cg h) 8, sSm_cg (nxb_cg h)]
