/-! ===== of one run, two things ===== -/
theorem zi_inj {a b : Nat} (h : zi a = zi b) : a = b := by cases h; rfl
theorem zl_inj {a b : Nat} (h : zl a = zl b) : a = b := by cases h; rfl
theorem zr_inj {a b : Nat} (h : zr a = zr b) : a = b := by cases h; rfl
theorem pe_inj {p q : pv} (hp : p.1 ≤ 2) (hq : q.1 ≤ 2) (op : pok p) (oq : pok q) (h : pe p = pe q) : p = q := by
  obtain ⟨a, x⟩ := p
  obtain ⟨b, y⟩ := q
  match a, b, hp, hq, op, oq, h with
  | 0, 0, _, _, op, oq, h =>
    have e : x = y := zu_inj op oq (zi_inj h)
    rw [e]
  | 1, 1, _, _, op, oq, h =>
    have h := zl_inj (show zl x.toNat = zl y.toNat from h)
    have op : 0 ≤ x ∧ x < 18446744073709551616 := op
    have oq : 0 ≤ y ∧ y < 18446744073709551616 := oq
    rw [show x = y by omega]
  | 2, 2, _, _, op, oq, h =>
    have h := zr_inj (show zr (x + 2).toNat = zr (y + 2).toNat from h)
    have op : -2 ≤ x := op
    have oq : -2 ≤ y := oq
    rw [show x = y by omega]
  | 0, 1, _, _, _, _, h => exact absurd (show zi (zu x) = zl y.toNat from h) (by intro q; cases q)
  | 0, 2, _, _, _, _, h => exact absurd (show zi (zu x) = zr (y + 2).toNat from h) (by intro q; cases q)
  | 1, 0, _, _, _, _, h => exact absurd (show zl x.toNat = zi (zu y) from h) (by intro q; cases q)
  | 1, 2, _, _, _, _, h => exact absurd (show zl x.toNat = zr (y + 2).toNat from h) (by intro q; cases q)
  | 2, 0, _, _, _, _, h => exact absurd (show zr (x + 2).toNat = zi (zu y) from h) (by intro q; cases q)
  | 2, 1, _, _, _, _, h => exact absurd (show zr (x + 2).toNat = zl y.toNat from h) (by intro q; cases q)
theorem zW_eq {h : zH} {H1 H2 : PH} (w1 : zW h H1) (w2 : zW h H2) : H1 = H2 := by
  funext c i
  by_cases hv : VA c i
  · obtain ⟨h0, h1, h2, h3⟩ := hv
    obtain ⟨n, rfl⟩ := Int.eq_ofNat_of_zero_le h0
    obtain ⟨m, rfl⟩ := Int.eq_ofNat_of_zero_le h2
    have e : ((n : Int)).toNat = n := by omega
    rw [e] at h3
    have hn : n < zNC := by omega
    obtain ⟨-, -, a3, a4⟩ := w1.2.1 n hn
    obtain ⟨-, -, b3, b4⟩ := w2.2.1 n hn
    by_cases hr : zrow (zSh n).1
    · have a := a3 hr m (by omega)
      have b := b3 hr m (by omega)
      exact zu_inj a.2 b.2 (a.1.symm.trans b.1)
    · have a := (a4 hr).2.2 m (by omega)
      have b := (b4 hr).2.2 m (by omega)
      have ht : ztg (zSh n).1 m ≤ 2 ∨ 2 < ztg (zSh n).1 m := by omega
      rcases ht with ht | ht
      · have := pe_inj ht ht a.2 b.2 (a.1.symm.trans b.1)
        exact congrArg Prod.snd this
      · have key : ∀ (t : Nat) (x y : Int), 2 < t → pok (t, x) → pok (t, y) → pe (t, x) = pe (t, y) → x = y := by
          intro t x y q px py h
          match t, q, px, py, h with
          | k + 3, _, px, py, h =>
            have h := zr_inj (show zr (x + 2).toNat = zr (y + 2).toNat from h)
            have px : -2 ≤ x := px
            have py : -2 ≤ y := py
            omega
        exact key _ _ _ ht a.2 b.2 (a.1.symm.trans b.1)
  · rw [w1.2.2.2 c i hv, w2.2.2.2 c i hv]
theorem Tr_and {G : zG} {us : Nat} {cd : zK} {D : Nat} {cur : List zQ} {pc : Nat} {ls : PL} {st : List pv} {H : PH} {Q1 Q2 : Option pv → PH → Prop} (h1 : Tr G us cd D cur pc ls st H Q1) (h2 : Tr G us cd D cur pc ls st H Q2) (t1 : ∀ p H', Q1 (some p) H' → p.1 ≤ 2) (t2 : ∀ p H', Q2 (some p) H' → p.1 ≤ 2) : Tr G us cd D cur pc ls st H (fun r H' => Q1 r H' ∧ Q2 r H') := by
  intro hl hs h hW
  obtain ⟨r1, h1', H1, n1, a1, b1, c1, d1⟩ := h1 hl hs h hW
  obtain ⟨r2, h2', H2, n2, a2, b2, c2, d2⟩ := h2 hl hs h hW
  have e := (d1 D (Nat.le_refl _) (max n1 n2) (Nat.le_max_left _ _)).symm.trans (d2 D (Nat.le_refl _) (max n1 n2) (Nat.le_max_right _ _))
  have e := Option.some.inj e
  have er : r1.map pe = r2.map pe := congrArg (fun q => q.1) e
  have eh : h1' = h2' := congrArg (fun q => q.2.2.2) e
  subst eh
  have eH := zW_eq a1 a2
  subst eH
  have err : r1 = r2 := by
    cases r1 with
    | none =>
      cases r2 with
      | none => rfl
      | some q => cases er
    | some p =>
      cases r2 with
      | none => cases er
      | some q =>
        have e2 : pe p = pe q := Option.some.inj er
        rw [pe_inj (t1 p _ b1) (t2 q _ b2) (c1 p rfl) (c2 q rfl) e2]
  subst err
  exact ⟨r1, h1', H1, n1, a1, ⟨b1, b2⟩, c1, d1⟩
theorem Ca_and {G : zG} {us D mj : Nat} {as : List pv} {H : PH} {K1 K2 : Option pv → PH → Prop} (h1 : Ca G us D mj as H K1) (h2 : Ca G us D mj as H K2) (t1 : ∀ p H', K1 (some p) H' → p.1 ≤ 2) (t2 : ∀ p H', K2 (some p) H' → p.1 ≤ 2) : Ca G us D mj as H (fun r H' => K1 r H' ∧ K2 r H') := by
  obtain ⟨oc, ini, cc, maxL, rt, cdj, a1, a2, a3⟩ := h1
  obtain ⟨oc', ini', cc', maxL', rt', cdj', b1, b2, b3⟩ := h2
  have e := Option.some.inj (a1.symm.trans b1)
  cases e
  exact ⟨oc, ini, cc, maxL, rt, cdj, a1, a2, Tr_and a3 b3 t1 t2⟩
