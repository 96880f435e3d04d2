/-! a law is agreed on -/
theorem CI_fr' {H G : PH} {A : Int → Int} (hB : MB A) (ci : CI H A) (gs : ∀ c, c = 1 ∨ c = 2 ∨ (5 ≤ c ∧ c ≤ 41) ∨ c = 47 ∨ (57 ≤ c ∧ c ≤ 92) → G c = H c) (gq : ∀ q, KL q → G q = H q ∧ G (q + 1) = H (q + 1)) (gw : (G (H 1 5) 2 = H (H 1 5) 2 ∧ G (H 1 5) 3 = H (H 1 5) 3) ∧ G (H 1 5 + 1) = H (H 1 5 + 1)) : CI G A := by
  obtain ⟨⟨a, b, c, d, e⟩, gcr, ld⟩ := ci
  have a0 := hB.1
  have a2 := hB.2.2.1
  have e1 := gs 1 (by decide)
  have e47 := gs 47 (by decide)
  refine ⟨⟨by rw [e1, gs 2 (by decide)]; exact a, fun x x0 x1 => ?_, fun k k0 k1 => ?_, fun x y x0 x1 y0 y1 => by rw [gs _ (by omega)]; exact d x y x0 x1 y0 y1, ?_⟩, fun k k0 k1 => ?_, by unfold LDi; rw [e47]; exact ld⟩
  · have g := b x x0 x1
    unfold BRr at g ⊢
    rw [gs (57 + 3 * x) (by omega), gs (57 + 3 * x + 1) (by omega), gs (57 + 3 * x + 2) (by omega)]
    exact g
  · have g := c k k0 k1
    unfold LNr at g ⊢
    rw [e47, (gq _ (ld.1 k k0 (by omega))).1]
    exact g
  · unfold LWr at e ⊢
    rw [e1, gw.1.1, gw.1.2, gw.2]
    exact e
  · have g := gcr k k0 k1
    have q := gq _ (ld.1 k k0 (by omega))
    rw [e47, q.1, q.2]
    exact g
theorem KW_nx {w x : Int} (hw : KW w) (hx : KW x) (ne : ¬ x = w) : ¬ x = w + 1 ∧ ¬ x + 1 = w ∧ ¬ x + 1 = w + 1 := by
  refine ⟨fun e => (KW_gap hx).2 (by rw [e, show w + 1 - 1 = w by omega]; exact hw), fun e => (KW_gap hw).2 (by rw [← e, show x + 1 - 1 = x by omega]; exact hx), by omega⟩
theorem KL_nw {w q : Int} (hw : KW w) (hq : KL q) : ¬ q = w ∧ ¬ q = w + 1 ∧ ¬ q + 1 = w ∧ ¬ q + 1 = w + 1 := by
  have n := KW_no hw
  exact ⟨fun e => n.2.2.2.2.1 (e ▸ hq), fun e => n.2.2.2.2.2.1 (e ▸ hq), n.2.2.2.2.2.2 q hq, fun e => n.2.2.2.2.1 ((show q = w by omega) ▸ hq)⟩
/-- the spare law alone is written -/
theorem GFL_sp {H H' : PH} (ld : LDA H) (f : LFw (H 1 6) H H') : GFL H H' := by
  obtain ⟨d1, d2, d3, d4, d5, d6, d7⟩ := ld
  have k6 := d3.2.1
  have z := KWz k6
  have s : ∀ c : Int, c ≤ 47 → H' c = H c := fun c hc => f.1 c (by omega) (by omega) (by omega)
  refine ⟨by rw [s 0 (by decide)]; exact ⟨rfl, rfl⟩, s 47 (by decide), by rw [s 1 (by decide)]; exact ⟨rfl, rfl⟩, fun l l0 l1 => ?_⟩
  have dc := DC l0 l1
  have kk := d2 l l0 l1
  have n := (d4 l l0 l1).2
  have m := KW_nx k6 kk.1 n
  have p := KL_nw k6 kk.2
  have z4 := KW_213 kk.1
  have z5 := KL_in kk.2
  have z6 := KZ (Or.inr kk.2)
  refine ⟨f.1 _ (fun e => dc.2.2.2.1 (e ▸ k6)) (fun e => dc.2.2.2.2.2 _ k6 e.symm) (by omega), ?_, f.1 _ m.2.1 m.2.2 z4.2.1, f.1 _ p.1 p.2.1 (by omega), f.1 _ p.2.2.1 p.2.2.2 (by omega)⟩
  rw [f.1 _ n m.1 z4.1]
  exact ⟨rfl, rfl⟩
theorem CI_sp {H H' : PH} {A : Int → Int} (hB : MB A) (ci : CI H A) (ld : LDA H) (f : LFw (H 1 6) H H') : CI H' A := by
  have k6 := ld.2.2.1.2.1
  have z := KWz k6
  have k5 := ld.2.2.1.1
  have m := KW_nx k6 k5 ld.2.2.1.2.2
  have z4 := KW_213 k5
  refine CI_fr' hB ci (fun c hc => ?_) (fun q hq => ?_) ?_
  · by_cases c50 : c ≤ 47
    · exact f.1 c (by omega) (by omega) (by omega)
    · exact f.1 c (by omega) (by omega) (by omega)
  · have p := KL_nw k6 hq
    have z5 := KL_in hq
    have z6 := KZ (Or.inr hq)
    exact ⟨f.1 _ p.1 p.2.1 (by omega), f.1 _ p.2.2.1 p.2.2.2 (by omega)⟩
  · rw [f.1 _ ld.2.2.1.2.2 m.1 z4.1]
    exact ⟨⟨rfl, rfl⟩, f.1 _ m.2.1 m.2.2 z4.2.1⟩
theorem OF_sp {H H' : PH} (k6 : KW (H 1 6)) (f : LFw (H 1 6) H H') : OF H H' := by
  have z := KWz k6
  have z2 := KX_lt (Or.inl k6)
  exact ⟨fun c hc => f.1 c (by omega) (by omega) (by omega), ⟨by rw [f.1 0 (by omega) (by omega) (by omega)], f.1 589 (by omega) (by omega) (by omega)⟩, f.1 214 (by omega) (by omega) (by omega)⟩
theorem LFw_213 {w : Int} {H H' : PH} (hw : KW w) (f : LFw w H H') {v : Int} : (∀ c, ¬ c = w → ¬ c = w + 1 → ¬ c = 213 → pup H' 213 1 v c = H c) := fun c c1 c2 c3 => by rw [xp_ne c3]; exact f.1 c c1 c2 c3
set_option maxRecDepth 100000 in
/-- the three laws go round -/
theorem CD_law {H H1 G : PH} {S : Int → Int → Int} {n : Int} {T : Int → Int} {z : Int} {q : Int × List Int} (hR : RC H S n) (e : lwAll T z = some q) (lf : LFw (H 1 6) H H1) (lk : LKq (H 1 6) H1 q) (hG : G = pup (pup (pup (ndHx (pup H1 213 1 0) 1 0 0 0) 1 6 (ndHx (pup H1 213 1 0) 1 0 0 0 (469 + 6 * dnx (H 0 8)) 4)) (469 + 6 * dnx (H 0 8)) 4 (pup (ndHx (pup H1 213 1 0) 1 0 0 0) 1 6 (ndHx (pup H1 213 1 0) 1 0 0 0 (469 + 6 * dnx (H 0 8)) 4) 1 5)) 1 5 (H 1 6)) : CDt H G S n (lwB (S 0) q) := by
  obtain ⟨x1, x2, ld, x4, h8, x6, x7⟩ := id hR
  have ok0 := RC_sz hR
  obtain ⟨w1, w2, w3⟩ := lwAll_W e
  have l60 := w1.2.1
  have okB := OKR_law ok0 e
  have k6 := ld.2.2.1.2.1
  have k5 := ld.2.2.1.1
  have z6 := KWz k6
  have gl := GFL_sp ld lf
  have lx := dnx_in h8
  have dl := ld.2.1 _ lx.1 lx.2
  have e08 : pup H1 213 1 0 0 8 = H 0 8 := by rw [xp_ne (by decide)]; exact gl.1.2
  have h81 : 0 ≤ pup H1 213 1 0 0 8 ∧ pup H1 213 1 0 0 8 ≤ 19 := by rw [e08]; exact h8
  have na := nd_at (H := pup H1 213 1 0) (k := 1) (a := 0) (b := 0) (d := 0) h81
  rw [e08] at na
  have Nn : ∀ c, ¬ c = 0 → ¬ c = 469 + 6 * dnx (H 0 8) → ¬ c = 215 → ¬ c = 221 → ¬ c = 372 → ndHx (pup H1 213 1 0) 1 0 0 0 c = pup H1 213 1 0 c := fun c h0 h1 h2 h3 h4 => nd_ne h81 h0 (by rw [e08]; exact h1) h2 h3 h4
  have N1 : ndHx (pup H1 213 1 0) 1 0 0 0 1 = H 1 := by
    rw [Nn 1 (by decide) (by omega) (by decide) (by decide) (by decide), xp_ne (by decide)]
    exact lf.1 1 (by omega) (by omega) (by omega)
  have nd1 : ¬ (1 : Int) = 469 + 6 * dnx (H 0 8) := by omega
  have nd2 : ¬ 469 + 6 * dnx (H 0 8) = 1 := by omega
  have N4 : ndHx (pup H1 213 1 0) 1 0 0 0 (469 + 6 * dnx (H 0 8)) 4 = H (469 + 6 * dnx (H 0 8)) 4 := by
    rw [na.2.2.2.2.2.2 4 (by decide), xp_ne (by omega)]
    exact congrFun (gl.2.2.2 _ lx.1 lx.2).1 4
  have N5 : ndHx (pup H1 213 1 0) 1 0 0 0 (469 + 6 * dnx (H 0 8)) 5 = H (469 + 6 * dnx (H 0 8)) 5 := by
    rw [na.2.2.2.2.2.2 5 (by decide), xp_ne (by omega)]
    exact congrFun (gl.2.2.2 _ lx.1 lx.2).1 5
  have e15 : pup (ndHx (pup H1 213 1 0) 1 0 0 0) 1 6 (ndHx (pup H1 213 1 0) 1 0 0 0 (469 + 6 * dnx (H 0 8)) 4) 1 5 = H 1 5 := by rw [xp_at, if_neg (by decide), N1]
  rw [e15, N4] at hG
  have Gc : ∀ c, ¬ c = 1 → ¬ c = 469 + 6 * dnx (H 0 8) → G c = ndHx (pup H1 213 1 0) 1 0 0 0 c := fun c c1 c2 => by rw [hG, xp_ne c1, xp_ne c2, xp_ne c1]
  have Gh : ∀ c, ¬ c = 0 → ¬ c = 1 → ¬ c = 469 + 6 * dnx (H 0 8) → ¬ c = 213 → ¬ c = 215 → ¬ c = 221 → ¬ c = 372 → ¬ c = H 1 6 → ¬ c = H 1 6 + 1 → G c = H c := fun c c0 c1 c2 c3 c4 c5 c6 c7 c8 => by
    rw [Gc c c1 c2, Nn c c0 c2 c4 c5 c6, xp_ne c3]
    exact lf.1 c c7 c8 c3
  have G15 : G 1 5 = H 1 6 := by rw [hG, xp_at, if_pos rfl]
  have G16 : G 1 6 = H (469 + 6 * dnx (H 0 8)) 4 := by rw [hG, xp_at, if_neg (by decide), xp_ne nd1, xp_at, if_pos rfl]
  have G1 : ∀ i, ¬ i = 5 → ¬ i = 6 → G 1 i = H 1 i := fun i h5 h6 => by rw [hG, xp_at, if_neg h5, xp_ne nd1, xp_at, if_neg h6, N1]
  have Gd : ∀ i, G (469 + 6 * dnx (H 0 8)) i = if i = 4 then H 1 5 else ndHx (pup H1 213 1 0) 1 0 0 0 (469 + 6 * dnx (H 0 8)) i := fun i => by rw [hG, xp_ne nd2, xp_at, xp_ne nd2]
  have Gl : ∀ l, 0 ≤ l → l < 20 → ¬ l = dnx (H 0 8) → G (469 + 6 * l) = H (469 + 6 * l) := fun l l0 l1 ne => by
    have dc := DC l0 l1
    exact Gh _ (by omega) (by omega) (by omega) (by omega) (by omega) (by omega) (by omega) (fun e => dc.2.2.2.1 (by rw [e]; exact k6)) (fun e => dc.2.2.2.2.2 _ k6 e.symm)
  have G4 : ∀ l, 0 ≤ l → l < 20 → G (469 + 6 * l) 4 = if l = dnx (H 0 8) then H 1 5 else H (469 + 6 * l) 4 := fun l l0 l1 => by
    by_cases ee : l = dnx (H 0 8)
    · rw [ee, Gd, if_pos rfl, if_pos rfl]
    · rw [Gl l l0 l1 ee, if_neg ee]
  have G5 : ∀ l, 0 ≤ l → l < 20 → G (469 + 6 * l) 5 = H (469 + 6 * l) 5 := fun l l0 l1 => by
    by_cases ee : l = dnx (H 0 8)
    · rw [ee, Gd, if_neg (by decide), N5]
    · rw [Gl l l0 l1 ee]
  have dcx := DC lx.1 lx.2
  have Gq : ∀ x, KL x → G x = H x ∧ G (x + 1) = H (x + 1) := fun x hx => by
    have p := KL_nw k6 hx
    have z1 := KL_in hx
    have z2 := KZ (Or.inr hx)
    exact ⟨Gh _ (by omega) (by omega) (fun w => dcx.1 (by rw [← w]; exact hx)) (by omega) (by omega) (by omega) (by omega) p.1 p.2.1, Gh _ (by omega) (by omega) (dcx.2.2.2.2.1 _ hx) (by omega) (by omega) (by omega) (by omega) p.2.2.1 p.2.2.2⟩
  have Gw : ∀ x, KW x → ¬ x = H 1 6 → G x = H x ∧ G (x + 1) = H (x + 1) := fun x hx ne => by
    have m := KW_nx k6 hx ne
    have z1 := KWz hx
    have z2 := KZ (Or.inl hx)
    exact ⟨Gh _ (by omega) (by omega) (fun w => dcx.2.2.2.1 (by rw [← w]; exact hx)) (by omega) (by omega) (by omega) (by omega) ne m.1, Gh _ (by omega) (by omega) (dcx.2.2.2.2.2 _ hx) (by omega) (by omega) (by omega) (by omega) m.2.1 m.2.2⟩
  have G6 : (∀ i, G (H 1 6) i = H1 (H 1 6) i) ∧ ∀ i, G (H 1 6 + 1) i = H1 (H 1 6 + 1) i := by
    have z1 := KZ (Or.inl k6)
    exact ⟨fun i => by rw [Gc _ (by omega) (fun w => dcx.2.2.2.1 (by rw [← w]; exact k6)), Nn _ (by omega) (fun w => dcx.2.2.2.1 (by rw [← w]; exact k6)) (by omega) (by omega) (by omega), xp_ne (by omega)], fun i => by rw [Gc _ (by omega) (dcx.2.2.2.2.2 _ k6), Nn _ (by omega) (dcx.2.2.2.2.2 _ k6) (by omega) (by omega) (by omega), xp_ne (by omega)]⟩
  have G47 : G 47 = H 47 := Gh 47 (by decide) (by decide) (by omega) (by decide) (by decide) (by decide) (by decide) (by omega) (by omega)
  obtain ⟨⟨⟨s0, s1, s2, s3, s4, s5, s6, s7, s8, s9⟩, b1, b2, b3, b4⟩, gcr, ldi⟩ := id x1
  have a0 := ok0.1.1
  have a1 := ok0.1.2.1
  have a2 := ok0.1.2.2.1
  have L0 : ∀ j, ¬ (10 ≤ j ∧ j < 76) → lwB (S 0) q j = S 0 j := fun j hj => lwB_o l60 hj
  have hA : ∀ x y, chA (S 0) x y = chA (lwB (S 0) q) x y := fun x y => chA_cp (L0 1 (by decide)).symm (fun i i0 i1 => ⟨(L0 _ (by omega)).symm, (L0 _ (by omega)).symm⟩) x y
  have Gs : ∀ c, (2 ≤ c ∧ c ≤ 46) ∨ (57 ≤ c ∧ c ≤ 92) → G c = H c := fun c hc => Gh c (by omega) (by omega) (by omega) (by omega) (by omega) (by omega) (by omega) (by omega) (by omega)
  have ci : CI G (lwB (S 0) q) := by
    refine ⟨⟨?_, fun x x0 x1 => ?_, fun k k0 k1 => ?_, fun x y x0 x1 y0 y1 => ?_, ?_⟩, fun k k0 k1 => ?_, ?_⟩
    · rw [L0 0 (by decide), L0 1 (by decide), L0 2 (by decide), L0 3 (by decide), L0 4 (by decide), L0 5 (by decide), L0 6 (by decide), L0 7 (by decide), L0 8 (by decide), L0 9 (by decide), Gs 2 (by decide), G1 2 (by decide) (by decide), G1 4 (by decide) (by decide), G1 7 (by decide) (by decide), G1 8 (by decide) (by decide), G1 9 (by decide) (by decide), G1 11 (by decide) (by decide), G1 12 (by decide) (by decide), G1 10 (by decide) (by decide), G1 13 (by decide) (by decide)]
      exact ⟨s0, s1, s2, s3, s4, s5, s6, s7, s8, s9⟩
    · rw [L0 0 (by decide)] at x1
      have g := b1 x x0 x1
      have v6 := ok0.1.2.2.2.2.1 x x0 (by omega)
      have v8 := ok0.1.2.2.2.1 x x0 (by omega)
      have e6 := g.2.2.2.2.2.1
      exact BRr_same g (Gs _ (by omega)) (Gs _ (by omega)) (Gs _ (by omega)) (fun j j0 j1 => L0 j (by omega)) v8.2 (by omega)
    · rw [L0 2 (by decide)] at k1
      have g := b2 k k0 k1
      have v8 := ok0.1.2.2.2.2.2.1 k k0 (by omega)
      have g := LNr_EQ g (EL_out (B := lwB (S 0) q) (fun i i0 i1 => (L0 i (by omega)).symm) v8.2)
      unfold LNr at g ⊢
      rw [G47, (Gq _ (ldi.1 k k0 (by omega))).1]
      exact g
    · rw [Gs _ (by omega), b3 x y x0 x1 y0 y1]
      exact hA _ _
    · unfold LWr
      rw [G15, G6.1, G6.1, lk.1, lk.2.1]
      refine ⟨k6, rfl, rfl, fun j j0 j1 => ?_⟩
      obtain ⟨k, rfl⟩ := Int.eq_ofNat_of_zero_le j0
      have := lk.2.2 k (by omega)
      rw [G6.2, lwB_k (by omega)]
      exact ⟨this.1, this.2.symm⟩
    · rw [L0 2 (by decide)] at k1
      have g := gcr k k0 k1
      have v8 := ok0.1.2.2.2.2.2.1 k k0 (by omega)
      have kq := Gq _ (ldi.1 k k0 (by omega))
      rw [G47, kq.1, kq.2, L0 0 (by decide)]
      refine ⟨g.1, fun x x0 x1 x2 => ?_⟩
      rw [g.2 x x0 x1 x2]
      have vb := ok0.1.2.2.2.1 x x0 (by omega)
      have vr := ok0.1.2.2.2.2.1 x x0 (by omega)
      exact lapA_EQ hA vb.1 (EB_out (fun i i0 i1 => (L0 _ (by omega)).symm) vb.2 vr.2) (EL_out (fun i i0 i1 => (L0 i (by omega)).symm) v8.2)
    · unfold LDi
      rw [G47]
      exact ldi
  have cp : CPr G (lwB (S 0) q) := CPr_row ok0.1 (CPr_fr (Gs 42 (by decide)) (Gs 43 (by decide)) x2) (fun i hi => L0 i (by omega))
  have ldG : LDA G := by
    obtain ⟨d1, d2, d3, d4, d5, d6, d7⟩ := ld
    refine ⟨ci.2.2, fun m m0 m1 => ?_, ?_, fun m m0 m1 => ?_, fun i j i0 i1 j0 j1 w => ?_, fun m k m0 m1 k0 k1 => by rw [G5 m m0 m1, G47]; exact d6 m k m0 m1 k0 k1, fun i j i0 i1 j0 j1 w => ?_⟩
    · rw [G4 m m0 m1, G5 m m0 m1]
      refine ⟨?_, (d2 m m0 m1).2⟩
      split
      · exact d3.1
      · exact (d2 m m0 m1).1
    · rw [G15, G16]
      exact ⟨d3.2.1, (d2 _ lx.1 lx.2).1, fun w => (d4 _ lx.1 lx.2).2 w.symm⟩
    · rw [G4 m m0 m1, G15, G16]
      by_cases e : m = dnx (H 0 8)
      · rw [if_pos e]
        exact ⟨d3.2.2, fun w => (d4 _ lx.1 lx.2).1 w.symm⟩
      · rw [if_neg e]
        exact ⟨(d4 m m0 m1).2, fun w => e (d5 m _ m0 m1 lx.1 lx.2 w)⟩
    · rw [G4 i i0 i1, G4 j j0 j1] at w
      by_cases e : i = dnx (H 0 8)
      · by_cases p : j = dnx (H 0 8)
        · rw [e, p]
        · rw [if_pos e, if_neg p] at w
          exact ((d4 j j0 j1).1 w.symm).elim
      · by_cases p : j = dnx (H 0 8)
        · rw [if_neg e, if_pos p] at w
          exact ((d4 i i0 i1).1 w).elim
        · rw [if_neg e, if_neg p] at w
          exact d5 i j i0 i1 j0 j1 w
    · rw [G5 i i0 i1, G5 j j0 j1] at w
      exact d7 i j i0 i1 j0 j1 w
  have lg : ∀ l, 0 ≤ l → l < 20 → ¬ l = dnx (H 0 8) → LGc H G l := fun l l0 l1 ne => by
    have kk := ld.2.1 l l0 l1
    have c1 := Gw _ kk.1 (ld.2.2.2.1 l l0 l1).2
    have c2 := Gq _ kk.2
    exact ⟨Gl l l0 l1 ne, by rw [c1.1]; exact ⟨rfl, rfl⟩, c1.2, c2.1, c2.2⟩
  have Gz : ∀ c, c = 0 ∨ c = 215 ∨ c = 221 ∨ c = 372 → G c = ndHx (pup H1 213 1 0) 1 0 0 0 c := fun c hc => Gc c (by omega) (by omega)
  refine ⟨RC_note hR ci cp okB ldG (by rw [Gz 0 (by decide), na.1, xp_ne (by decide), gl.1.1, x4.2]) (by rw [Gz 0 (by decide), na.2.1]) lg ?_, MCC_0 (by rw [Gz 215 (by decide)]; exact nd_z.1) (by rw [Gz 221 (by decide)]; exact nd_z.2.1), ⟨fun c hc => Gh c (by omega) (by omega) (by omega) (by omega) (by omega) (by omega) (by omega) (by have := KX_lt (Or.inl k6); omega) (by have := KX_lt (Or.inl k6); omega), ⟨?_, Gh 589 (by decide) (by decide) (by omega) (by decide) (by decide) (by decide) (by decide) (by have := KX_lt (Or.inl k6); omega) (by have := KX_lt (Or.inl k6); omega)⟩, Gh 214 (by decide) (by decide) (by omega) (by decide) (by decide) (by decide) (by decide) (by omega) (by omega)⟩, ?_, by rw [Gz 372 (by decide)]; exact nd_z.2.2⟩
  · have co := Gw _ k5 ld.2.2.1.2.2
    unfold DD
    rw [Gd 0, Gd 4, if_neg (by decide), if_pos rfl, na.2.2.1]
    refine Or.inr (Or.inl ⟨rfl, ?_, ?_⟩)
    · refine REq_symm (REq_AG ok0.1 (OKR_11 ok0).2 (fun j j0 j1 => ?_))
      unfold lwU
      by_cases c : 10 ≤ j ∧ j < 76
      · rw [if_pos c]
      · rw [if_neg c, L0 j c]
    · unfold LWr at b4 ⊢
      rw [co.1, co.2]
      exact b4
  · rw [Gz 0 (by decide), nd_0 h81 (by decide) (by decide), xp_ne (by decide)]
    exact congrFun (lf.1 0 (by omega) (by omega) (by omega)) 10
  · rw [Gc 213 (by decide) (by omega), Nn 213 (by decide) (by omega) (by decide) (by decide) (by decide), xp_at, if_pos rfl]
set_option maxRecDepth 100000 in
theorem sp_c_law (sz : Int) (T : Int → Int) (S : Int → Int → Int) (n : Int) (H : PH) (hR : RC H S n) (hM : MCC (S 0) H) (h1 : H 213 1 = sz) (hW : H 214 = T) (hs : 0 ≤ sz ∧ sz ≤ 600) (hT0 : ∀ i, 0 ≤ i → i < sz → 0 ≤ T i ∧ T i ≤ 255) : SPEC 108 [(2, 0)] H (fun r H' => (∃ q : Int × List Int, lwAll T sz = some q ∧ r = some (0, q.1) ∧ CDt H H' S n (lwB (S 0) q)) ∨ (lwAll T sz = none ∧ r = some (0, -1) ∧ CQt H H' S n)) := by
  intro E n' res h
  obtain ⟨x1, x2, ld, x4, h8, x6, x7⟩ := id hR
  have ok0 := RC_sz hR
  have k6 := ld.2.2.1.2.1
  have g6 : ∀ X : PH, gv X 1 6 = X 1 6 := fun X => rfl
  have g5 : ∀ X : PH, gv X 1 5 = X 1 5 := fun X => rfl
  have h := call_runP 4 vm_X11_law h
  have h := xw_top (hd := []) 4 xD6_ok xc_X11_law xa_X11_law (t := 0) rfl h
  simp (maxDischargeDepth := 12) -implicitDefEqProofs [vb_X11_law_0, vb_X11_law_32, xI_0, xI_1, xI_3, xI_4, xI_7, xI_44, xI_49, xI_50, xI_61, xI_62, xw_X11_law_0, xw_X11_law_32, zw_lit, xB_c, xB_s, xB_n, i1_c, j2_c, k1_c, jJ_e, xlg, xls, xla, xpd, ppush, zw_m1, zw_m2, zw_m3, gf_1_5, gf_1_6, gf_2_4, gf_11_0, gf_11_1, pf_1_197, pf_1_198, pf_2_196, pf_10_1, tg_10_1, tg_11_0, tg_11_1, tg_1_5, tg_1_6, tg_2_4, gv_1_5, gv_1_6, gv_0_0, gv_0_1, xD1, xD2, xD3, xD4, xD5, xD6, xb1_0, g6] at h
  obtain ⟨r, H1, ⟨lf, p⟩, g⟩ := xc_use h (sp_X4_takeFrom (H 1 6) sz T H k6 hT0 h1 hW hs)
  have gl := GFL_sp ld lf
  have z6 := KWz k6
  have glu : GFL H (pup H1 213 1 0) := GFL_trans gl (GFL_up (LDA_fr gl.2.1 gl.2.2.1 ld (fun l l0 l1 => by rw [(gl.2.2.2 l l0 l1).1]; exact ⟨rfl, rfl⟩)) (by decide))
  have ci1 : CI (pup H1 213 1 0) (S 0) := CI_Z ok0.1 (CI_sp ok0.1 x1 ld lf) (fun c hc => xp_ne (by omega))
  have cp1 : CPr (pup H1 213 1 0) (S 0) := CPr_fr (by rw [xp_ne (by decide)]; exact lf.1 42 (by omega) (by omega) (by omega)) (by rw [xp_ne (by decide)]; exact lf.1 43 (by omega) (by omega) (by omega)) x2
  have of1 : OF H (pup H1 213 1 0) := OF_trans (OF_sp k6 lf) ⟨fun c hc => xp_ne (by omega), ⟨congrFun (xp_ne (by decide)) 10, xp_ne (by decide)⟩, xp_ne (by decide)⟩
  rcases p with ⟨q, e, rfl, lk⟩ | ⟨e, rfl⟩
  · obtain ⟨w1, w2, w3⟩ := lwAll_W e
    have ne : ¬ q.1 = -1 := by omega
    simp (maxDischargeDepth := 12) -implicitDefEqProofs [vb_X11_law_0, vb_X11_law_32, xI_0, xI_1, xI_3, xI_4, xI_7, xI_44, xI_49, xI_50, xI_61, xI_62, xw_X11_law_0, xw_X11_law_32, zw_lit, xB_c, xB_s, xB_n, i1_c, j2_c, k1_c, jJ_e, xlg, xls, xla, xpd, ppush, zw_m1, zw_m2, zw_m3, gf_1_5, gf_1_6, gf_2_4, gf_11_0, gf_11_1, pf_1_197, pf_1_198, pf_2_196, pf_10_1, tg_10_1, tg_11_0, tg_11_1, tg_1_5, tg_1_6, tg_2_4, gv_1_5, gv_1_6, gv_0_0, gv_0_1, xD1, xD2, xD3, xD4, xD5, xD6, xb1_0, ne] at g
    have ld1 : LDA (pup H1 213 1 0) := LDA_fr glu.2.1 glu.2.2.1 ld (fun l l0 l1 => by rw [(glu.2.2.2 l l0 l1).1]; exact ⟨rfl, rfl⟩)
    have h81 : 0 ≤ pup H1 213 1 0 0 8 ∧ pup H1 213 1 0 0 8 ≤ 19 := by rw [glu.1.2]; exact h8
    obtain ⟨r, H2, ⟨rfl, rfl⟩, g⟩ := xc_use g (sp_nd 1 0 0 0 (pup H1 213 1 0) (by rw [glu.1.1]; omega) h81)
    rw [glu.1.2] at g
    have lx := dnx_in h8
    have gd4 : ∀ X : PH, gv X (469 + 6 * dnx (H 0 8)) 4 = X (469 + 6 * dnx (H 0 8)) 4 := fun X => gvD lx.1 lx.2 (Or.inl rfl) X
    have nd1 : ¬ (1 : Int) = 469 + 6 * dnx (H 0 8) := by omega
    have nd2 : ¬ 469 + 6 * dnx (H 0 8) = 1 := by omega
    simp (maxDischargeDepth := 12) -implicitDefEqProofs [vb_X11_law_0, vb_X11_law_32, xI_0, xI_1, xI_3, xI_4, xI_7, xI_44, xI_49, xI_50, xI_61, xI_62, xw_X11_law_0, xw_X11_law_32, zw_lit, xB_c, xB_s, xB_n, i1_c, j2_c, k1_c, jJ_e, xlg, xls, xla, xpd, ppush, zw_m1, zw_m2, zw_m3, gf_1_5, gf_1_6, gf_2_4, gf_11_0, gf_11_1, pf_1_197, pf_1_198, pf_2_196, pf_10_1, tg_10_1, tg_11_0, tg_11_1, tg_1_5, tg_1_6, tg_2_4, gv_1_5, gv_1_6, gv_0_0, gv_0_1, xD1, xD2, xD3, xD4, xD5, xD6, xb1_0, gd4, g5, xp_ne, nd1, nd2] at g
    exact ⟨_, _, g, Or.inl ⟨q, e, rfl, CD_law hR e lf lk rfl⟩⟩
  · simp (maxDischargeDepth := 12) -implicitDefEqProofs [vb_X11_law_0, vb_X11_law_32, xI_0, xI_1, xI_3, xI_4, xI_7, xI_44, xI_49, xI_50, xI_61, xI_62, xw_X11_law_0, xw_X11_law_32, zw_lit, xB_c, xB_s, xB_n, i1_c, j2_c, k1_c, jJ_e, xlg, xls, xla, xpd, ppush, zw_m1, zw_m2, zw_m3, gf_1_5, gf_1_6, gf_2_4, gf_11_0, gf_11_1, pf_1_197, pf_1_198, pf_2_196, pf_10_1, tg_10_1, tg_11_0, tg_11_1, tg_1_5, tg_1_6, tg_2_4, gv_1_5, gv_1_6, gv_0_0, gv_0_1, xD1, xD2, xD3, xD4, xD5, xD6, xb1_0] at g
    exact ⟨_, _, g, Or.inr ⟨e, rfl, RC_fr hR ci1 cp1 glu, MCC_fr (fun c c0 c1 => by rw [xp_ne (by omega)]; exact lf.1 c (by omega) (by omega) (by omega)) hM, of1, by rw [xp_at, if_pos rfl], by rw [xp_ne (by decide)]; exact lf.1 372 (by omega) (by omega) (by omega)⟩⟩
