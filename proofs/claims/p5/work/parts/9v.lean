/-! deeds' cells among the others -/
theorem DCk : ∀ l : Nat, l < 20 → ¬ (zSh (469 + 6 * l)).1 = 5 ∧ ¬ (zSh (468 + 6 * l)).1 = 5 ∧ ¬ (zSh (467 + 6 * l)).1 = 4 ∧ ¬ (zSh (469 + 6 * l)).1 = 4 ∧ ¬ (zSh (469 + 6 * l)).1 = 16 := by
  have g : (List.range 20).all (fun l => !Nat.beq (zSh (469 + 6 * l)).1 5 && !Nat.beq (zSh (468 + 6 * l)).1 5 && !Nat.beq (zSh (467 + 6 * l)).1 4 && !Nat.beq (zSh (469 + 6 * l)).1 4 && !Nat.beq (zSh (469 + 6 * l)).1 16) = true := by decide +kernel
  intro l hl
  have := List.all_eq_true.mp g l (List.mem_range.mpr hl)
  simp only [Bool.and_eq_true, Bool.not_eq_true'] at this
  obtain ⟨⟨⟨⟨a, b⟩, c⟩, d⟩, e⟩ := this
  exact ⟨fun w => (by rw [w] at a; cases a), fun w => (by rw [w] at b; cases b), fun w => (by rw [w] at c; cases c), fun w => (by rw [w] at d; cases d), fun w => (by rw [w] at e; cases e)⟩
theorem DC {l : Int} (l0 : 0 ≤ l) (l1 : l < 20) : ¬ KL (469 + 6 * l) ∧ ¬ KL (469 + 6 * l - 1) ∧ ¬ KW (469 + 6 * l - 2) ∧ ¬ KW (469 + 6 * l) ∧ (∀ q, KL q → ¬ q + 1 = 469 + 6 * l) ∧ ∀ w, KW w → ¬ w + 1 = 469 + 6 * l := by
  obtain ⟨n, rfl⟩ := Int.eq_ofNat_of_zero_le l0
  obtain ⟨a, b, c, d, e⟩ := DCk n (by omega)
  have e0 : (469 + 6 * (n : Int)).toNat = 469 + 6 * n := by omega
  refine ⟨fun w => ?_, fun w => ?_, fun w => ?_, fun w => ?_, fun q hq w => ?_, fun q hq w => ?_⟩
  · have := w.2.2
    rw [e0] at this
    exact a this
  · have := w.2.2
    rw [show (469 + 6 * (n : Int) - 1).toNat = 468 + 6 * n by omega] at this
    exact b this
  · have := w.2.2
    rw [show (469 + 6 * (n : Int) - 2).toNat = 467 + 6 * n by omega] at this
    exact c this
  · have := w.2.2
    rw [e0] at this
    exact d this
  · have := KL_16 hq
    rw [w, e0] at this
    exact e this
  · have := (KW_16 hq).1
    rw [w, e0] at this
    exact e this
theorem KW_gap {w : Int} (h : KW w) : ¬ KW (w - 2) ∧ ¬ KW (w - 1) := by
  have g : (List.range 622).all (fun c => !Nat.beq (zSh c).1 4 || (!Nat.beq (zSh (c + 1)).1 4 && !Nat.beq (zSh (c + 2)).1 4)) = true := by decide +kernel
  have k : ∀ c : Int, KW c → ¬ KW (c + 1) ∧ ¬ KW (c + 2) := fun c hc => by
    have := List.all_eq_true.mp g c.toNat (List.mem_range.mpr (by have := hc.1; have := hc.2.1; omega))
    rw [hc.2.2] at this
    simp only [Nat.beq_refl, Bool.not_true, Bool.false_or, Bool.and_eq_true, Bool.not_eq_true'] at this
    have h0 := hc.1
    refine ⟨fun w => ?_, fun w => ?_⟩
    · have v := w.2.2
      rw [show (c + 1).toNat = c.toNat + 1 by omega] at v
      rw [v] at this
      cases this.1
    · have v := w.2.2
      rw [show (c + 2).toNat = c.toNat + 2 by omega] at v
      rw [v] at this
      cases this.2
  exact ⟨fun w2 => (k _ w2).2 (by rw [show w - 2 + 2 = w by omega]; exact h), fun w2 => (k _ w2).1 (by rw [show w - 1 + 1 = w by omega]; exact h)⟩
theorem LGc_refl {H : PH} {l : Int} : LGc H H l := ⟨rfl, ⟨rfl, rfl⟩, rfl, rfl, rfl⟩
theorem LGc_trans {H H1 H2 : PH} {l : Int} (a : LGc H H1 l) (b : LGc H1 H2 l) : LGc H H2 l := by
  obtain ⟨a1, a2, a3, a4, a5⟩ := a
  obtain ⟨b1, b2, b3, b4, b5⟩ := b
  rw [a1] at b2 b3 b4 b5
  exact ⟨b1.trans a1, ⟨b2.1.trans a2.1, b2.2.trans a2.2⟩, b3.trans a3, b4.trans a4, b5.trans a5⟩
theorem GFL_refl {H : PH} : GFL H H := ⟨⟨rfl, rfl⟩, rfl, ⟨rfl, rfl⟩, fun _ _ _ => LGc_refl⟩
theorem GFL_trans {H H1 H2 : PH} (a : GFL H H1) (b : GFL H1 H2) : GFL H H2 := ⟨⟨b.1.1.trans a.1.1, b.1.2.trans a.1.2⟩, b.2.1.trans a.2.1, ⟨b.2.2.1.1.trans a.2.2.1.1, b.2.2.1.2.trans a.2.2.1.2⟩, fun l l0 l1 => LGc_trans (a.2.2.2 l l0 l1) (b.2.2.2 l l0 l1)⟩
/-- where nothing of deeds lies -/
theorem GFL_of {H H' : PH} (ld : LDA H) (g0 : H' 0 7 = H 0 7 ∧ H' 0 8 = H 0 8) (g47 : H' 47 = H 47) (g1 : H' 1 5 = H 1 5 ∧ H' 1 6 = H 1 6) (gd : ∀ l, 0 ≤ l → l < 20 → H' (469 + 6 * l) = H (469 + 6 * l)) (gw : ∀ w, KW w → (H' w 2 = H w 2 ∧ H' w 3 = H w 3) ∧ H' (w + 1) = H (w + 1)) (gq : ∀ q, KL q → (∀ k, 0 ≤ k → k < 60 → ¬ q = H 47 k) → H' q = H q ∧ H' (q + 1) = H (q + 1)) : GFL H H' := by
  refine ⟨g0, g47, g1, fun l l0 l1 => ?_⟩
  obtain ⟨k1, k2⟩ := ld.2.1 l l0 l1
  have a := gw _ k1
  have b := gq _ k2 (fun k k0 k1 => ld.2.2.2.2.2.1 l k l0 l1 k0 k1)
  exact ⟨gd l l0 l1, a.1, a.2, b.1, b.2⟩
theorem GFL_AF {H H' : PH} (ld : LDA H) (h4 : H 1 4 ≤ 60) (f : AF H H') : GFL H H' := by
  have nk : ∀ c : Int, c ≤ 92 → ¬ KL c := fun c hc w => by have := KL_in w; omega
  have nw : ∀ c : Int, c ≤ 47 → ¬ KW c := fun c hc w => by have := KWz w; omega
  have e : ∀ c : Int, c ≤ 49 → ¬ c = 44 → ¬ c = 45 → H' c = H c := fun c hc h1 h2 => f.1 c h1 h2 (by omega) (by omega) (nk c (by omega)) (nk _ (by omega)) (nw _ (by omega)) (by omega)
  refine GFL_of ld ⟨by rw [e 0 (by decide) (by decide) (by decide)], by rw [e 0 (by decide) (by decide) (by decide)]⟩ (e 47 (by decide) (by decide) (by decide)) ⟨by rw [e 1 (by decide) (by decide) (by decide)], by rw [e 1 (by decide) (by decide) (by decide)]⟩ (fun l l0 l1 => ?_) (fun w hw => ?_) (fun q hq h => ?_)
  · obtain ⟨a, b, c, d, _⟩ := DC l0 l1
    exact f.1 _ (by omega) (by omega) (by omega) (by omega) a b c (by omega)
  · have n := KW_no hw
    have z := KWz hw
    have g := KW_gap hw
    have e1 := f.1 w n.1 n.2.1 (by omega) (by omega) n.2.2.2.2.1 (fun k => n.2.2.2.2.2.2 _ k (by omega)) g.1 (by omega)
    have e2 := f.1 (w + 1) n.2.2.1 n.2.2.2.1 (by omega) (by omega) n.2.2.2.2.2.1 (by rw [show w + 1 - 1 = w by omega]; exact n.2.2.2.2.1) (by rw [show w + 1 - 2 = w - 1 by omega]; exact g.2) (by omega)
    rw [e1]
    exact ⟨⟨rfl, rfl⟩, e2⟩
  · have x := f.2.2.2.2 q hq (fun k k0 k1 => h k k0 (by omega))
    refine ⟨funext fun i => ?_, x.2⟩
    by_cases i4 : i = 4
    · rw [i4]
      exact x.1
    · exact f.2.1 q hq i i4
theorem GFL_XS {H H' : PH} (ld : LDA H) (f : FXs H H') : GFL H H' := by
  have nl : ∀ c : Int, c ≤ 92 → ∀ k, 0 ≤ k → k < 60 → ¬ c = H 47 k := fun c hc k k0 k1 w => by have := KL_in (ld.1.1 k k0 k1); omega
  refine GFL_of ld ⟨by rw [f.1 0 (by decide) (nl 0 (by decide))], by rw [f.1 0 (by decide) (nl 0 (by decide))]⟩ f.2.2.2 ⟨f.2.1 5 (by decide) (by decide), f.2.1 6 (by decide) (by decide)⟩ (fun l l0 l1 => ?_) (fun w hw => ?_) (fun q hq h => ?_)
  · obtain ⟨a, b, c, d, _⟩ := DC l0 l1
    exact f.1 _ (by omega) (fun k k0 k1 w => a (by rw [w]; exact ld.1.1 k k0 k1))
  · have n := KW_no hw
    have z := KWz hw
    rw [f.1 w (by omega) (fun k k0 k1 e => n.2.2.2.2.1 (by rw [e]; exact ld.1.1 k k0 k1)), f.1 (w + 1) (by omega) (fun k k0 k1 e => n.2.2.2.2.2.1 (by rw [e]; exact ld.1.1 k k0 k1))]
    exact ⟨⟨rfl, rfl⟩, rfl⟩
  · have i := KL_in hq
    rw [f.1 q (by omega) h, f.1 (q + 1) (by omega) (fun k k0 k1 e => i.2.2.1 (by rw [e]; exact ld.1.1 k k0 k1))]
    exact ⟨rfl, rfl⟩
/-- one place is changed that no deed has -/
theorem GFL_up {H : PH} {c i v : Int} (ld : LDA H) (hc : (c = 1 ∧ ¬ i = 5 ∧ ¬ i = 6) ∨ (c = 0 ∧ ¬ i = 7 ∧ ¬ i = 8) ∨ (53 ≤ c ∧ c ≤ 92) ∨ (213 ≤ c ∧ c ≤ 467) ∨ c = 44 ∨ c = 45 ∨ c = 46 ∨ 590 ≤ c) : GFL H (pup H c i v) := by
  have lt : ∀ {x : Int}, KW x ∨ KL x → x ≤ 588 := fun {x} k => by
    rcases k with k | k
    · have := k.2.1
      have g : (List.range 622).all (fun c => !Nat.beq (zSh c).1 4 || Nat.ble c 588) = true := by decide +kernel
      have := List.all_eq_true.mp g x.toNat (List.mem_range.mpr (by have := k.1; omega))
      rw [k.2.2] at this
      simpa using this
    · have := k.2.1
      have g : (List.range 622).all (fun c => !Nat.beq (zSh c).1 5 || Nat.ble c 588) = true := by decide +kernel
      have := List.all_eq_true.mp g x.toNat (List.mem_range.mpr (by have := k.1; omega))
      rw [k.2.2] at this
      simpa using this
  refine GFL_of ld ?_ (xp_ne (by omega)) ?_ (fun l l0 l1 => ?_) (fun w hw => ?_) (fun q hq h => ?_)
  · by_cases e : c = 0
    · subst e
      rw [xp_at, xp_at, if_neg (by omega), if_neg (by omega)]
      exact ⟨rfl, rfl⟩
    · rw [xp_ne (fun w => e w.symm)]
      exact ⟨rfl, rfl⟩
  · by_cases e : c = 1
    · subst e
      rw [xp_at, xp_at, if_neg (by omega), if_neg (by omega)]
      exact ⟨rfl, rfl⟩
    · rw [xp_ne (fun w => e w.symm)]
      exact ⟨rfl, rfl⟩
  · obtain ⟨a, b, c, d, _⟩ := DC l0 l1
    exact xp_ne (by omega)
  · have n := KW_no hw
    have z := KWz hw
    have z2 := lt (Or.inl hw)
    have z3 := KZ (Or.inl hw)
    rw [xp_ne (by omega), xp_ne (by omega)]
    exact ⟨⟨rfl, rfl⟩, rfl⟩
  · have z := KZ (Or.inr hq)
    have i := KL_in hq
    have z2 := lt (Or.inr hq)
    rw [xp_ne (by omega), xp_ne (by omega)]
    exact ⟨rfl, rfl⟩
/-! a deed noted, and what is read of it -/
theorem nd_at {H : PH} {k a b d : Int} (h8 : 0 ≤ H 0 8 ∧ H 0 8 ≤ 19) : ndHx H k a b d 0 7 = min 20 (H 0 7 + 1) ∧ ndHx H k a b d 0 8 = dnx (H 0 8) ∧ ndHx H k a b d (469 + 6 * dnx (H 0 8)) 0 = k ∧ ndHx H k a b d (469 + 6 * dnx (H 0 8)) 1 = a ∧ ndHx H k a b d (469 + 6 * dnx (H 0 8)) 2 = b ∧ ndHx H k a b d (469 + 6 * dnx (H 0 8)) 3 = d ∧ (∀ i, 4 ≤ i → ndHx H k a b d (469 + 6 * dnx (H 0 8)) i = H (469 + 6 * dnx (H 0 8)) i) := by
  have l := dnx_in h8
  have n1 : ¬ 469 + 6 * dnx (H 0 8) = 372 := by omega
  have n2 : ¬ 469 + 6 * dnx (H 0 8) = 221 := by omega
  have n3 : ¬ 469 + 6 * dnx (H 0 8) = 215 := by omega
  have n4 : ¬ 469 + 6 * dnx (H 0 8) = 0 := by omega
  have n5 : ¬ (0 : Int) = 469 + 6 * dnx (H 0 8) := by omega
  unfold ndHx
  refine ⟨?_, ?_, ?_, ?_, ?_, ?_, fun i hi => ?_⟩
  · simp only [xp_ne (show ¬ (0 : Int) = 372 by decide), xp_ne (show ¬ (0 : Int) = 221 by decide), xp_ne (show ¬ (0 : Int) = 215 by decide), xp_ne n5, xp_at, if_pos]
  · simp only [xp_ne (show ¬ (0 : Int) = 372 by decide), xp_ne (show ¬ (0 : Int) = 221 by decide), xp_ne (show ¬ (0 : Int) = 215 by decide), xp_ne n5, xp_at, if_pos]
    rw [if_neg (by decide)]
  all_goals simp only [xp_ne n1, xp_ne n2, xp_ne n3, xp_ne n4, xp_at]
  · rfl
  · rfl
  · rfl
  · rfl
  · rw [if_neg (by omega), if_neg (by omega), if_neg (by omega), if_neg (by omega)]
theorem nd_ne {H : PH} {k a b d c : Int} (h8 : 0 ≤ H 0 8 ∧ H 0 8 ≤ 19) (h0 : ¬ c = 0) (h1 : ¬ c = 469 + 6 * dnx (H 0 8)) (h2 : ¬ c = 215) (h3 : ¬ c = 221) (h4 : ¬ c = 372) : ndHx H k a b d c = H c := by
  unfold ndHx
  rw [xp_ne h4, xp_ne h3, xp_ne h2, xp_ne h1, xp_ne h1, xp_ne h1, xp_ne h1, xp_ne h0, xp_ne h0]
theorem nd_0 {H : PH} {k a b d i : Int} (h8 : 0 ≤ H 0 8 ∧ H 0 8 ≤ 19) (h1 : ¬ i = 7) (h2 : ¬ i = 8) : ndHx H k a b d 0 i = H 0 i := by
  have l := dnx_in h8
  have n5 : ¬ (0 : Int) = 469 + 6 * dnx (H 0 8) := by omega
  unfold ndHx
  simp only [xp_ne (show ¬ (0 : Int) = 372 by decide), xp_ne (show ¬ (0 : Int) = 221 by decide), xp_ne (show ¬ (0 : Int) = 215 by decide), xp_ne n5, xp_at]
  rw [if_neg h1, if_neg h2]
theorem LDA_nd {H : PH} {k a b d : Int} (h8 : 0 ≤ H 0 8 ∧ H 0 8 ≤ 19) (ld : LDA H) : LDA (ndHx H k a b d) := by
  have l := dnx_in h8
  refine LDA_fr (nd_ne h8 (by decide) (by omega) (by decide) (by decide) (by decide)) ?_ ld (fun m m0 m1 => ?_)
  · rw [nd_ne h8 (by decide) (by omega) (by decide) (by decide) (by decide)]
    exact ⟨rfl, rfl⟩
  · by_cases e : m = dnx (H 0 8)
    · rw [e]
      exact ⟨(nd_at h8).2.2.2.2.2.2 4 (by decide), (nd_at h8).2.2.2.2.2.2 5 (by decide)⟩
    · rw [nd_ne h8 (by omega) (by omega) (by omega) (by omega) (by omega)]
      exact ⟨rfl, rfl⟩
theorem LGc_nd {H : PH} {k a b d l : Int} (h8 : 0 ≤ H 0 8 ∧ H 0 8 ≤ 19) (ld : LDA H) (l0 : 0 ≤ l) (l1 : l < 20) (ne : ¬ l = dnx (H 0 8)) : LGc H (ndHx H k a b d) l := by
  have lx := dnx_in h8
  obtain ⟨k1, k2⟩ := ld.2.1 l l0 l1
  have z1 := KWz k1
  have z2 := KZ (Or.inr k2)
  have z3 := KL_in k2
  obtain ⟨c1, c2, c3, c4, c5, c6⟩ := DC lx.1 lx.2
  have e : ∀ c, ¬ c = 0 → ¬ c = 469 + 6 * dnx (H 0 8) → ¬ c = 215 → ¬ c = 221 → ¬ c = 372 → ndHx H k a b d c = H c := fun c h0 h1 h2 h3 h4 => nd_ne h8 h0 h1 h2 h3 h4
  have w1 := e (H (469 + 6 * l) 4) (by omega) (fun w => c4 (by rw [← w]; exact k1)) (by omega) (by omega) (by omega)
  exact ⟨e _ (by omega) (by omega) (by omega) (by omega) (by omega), by rw [w1]; exact ⟨rfl, rfl⟩, e _ (by omega) (c6 _ k1) (by omega) (by omega) (by omega), e _ (by omega) (fun w => c1 (by rw [← w]; exact k2)) (by omega) (by omega) (by omega), e _ (by omega) (c5 _ k2) (by omega) (by omega) (by omega)⟩
theorem CPr_fr {H H' : PH} {A : Int → Int} (h42 : H' 42 = H 42) (h43 : H' 43 = H 43) (h : CPr H A) : CPr H' A := by
  unfold CPr mtC at h ⊢
  rw [h42, h43]
  exact h
/-- a deed is noted, then numbers change -/
theorem RC_nd {H H1 G : PH} {S : Int → Int → Int} {n k a b d : Int} {B : Int → Int} (h : RC H S n) (g1 : GFL H H1) (g2 : GFL (ndHx H1 k a b d) G) (ci : CI G B) (cp : CPr G B) (ok : OKR B) (dd : DD (ndHx H1 k a b d) (dnx (H1 0 8)) B (S 0)) : RC G (cns B S) (min 20 (n + 1)) := by
  have h' := h
  obtain ⟨x1, x2, ld, x4, x5, x6, x7⟩ := h
  have h8 : 0 ≤ H1 0 8 ∧ H1 0 8 ≤ 19 := by rw [g1.1.2]; exact x5
  have ld1 : LDA H1 := LDA_fr g1.2.1 g1.2.2.1 ld (fun l l0 l1 => by rw [(g1.2.2.2 l l0 l1).1]; exact ⟨rfl, rfl⟩)
  have ldn : LDA (ndHx H1 k a b d) := LDA_nd h8 ld1
  have na := nd_at (H := H1) (k := k) (a := a) (b := b) (d := d) h8
  have lx := dnx_in h8
  refine RC_note h' ci cp ok (LDA_fr g2.2.1 g2.2.2.1 ldn (fun l l0 l1 => by rw [(g2.2.2.2 l l0 l1).1]; exact ⟨rfl, rfl⟩)) (by rw [g2.1.1, na.1, g1.1.1, x4.2]) (by rw [g2.1.2, na.2.1, g1.1.2]) (fun l l0 l1 ne => LGc_trans (g1.2.2.2 l l0 l1) (LGc_trans (LGc_nd h8 ld1 l0 l1 (by rw [g1.1.2]; exact ne)) (g2.2.2.2 l l0 l1))) ?_
  rw [← g1.1.2]
  exact DD_fr (g2.2.2.2 _ lx.1 lx.2) dd
