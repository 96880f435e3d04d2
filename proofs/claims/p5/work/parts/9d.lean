theorem EB_out {A B : Int → Int} {y : Int} (h : ∀ i, y ≤ i → i < y + 26 → A i = B i) (h0 : A y ≤ 8) (h1 : A (y + 13) ≤ 6) : EB A B y := ⟨h y (by omega) (by omega), fun i i0 i1 => h _ (by omega) (by omega), h _ (by omega) (by omega), h _ (by omega) (by omega), h _ (by omega) (by omega), h _ (by omega) (by omega), h _ (by omega) (by omega), fun i i0 i1 => ⟨h _ (by omega) (by omega), h _ (by omega) (by omega)⟩⟩
theorem EL_out {A B : Int → Int} {y : Int} (h : ∀ i, y ≤ i → i < y + 12 → A i = B i) (h0 : A (y + 3) ≤ 8) : EL A B y := ⟨h y (by omega) (by omega), h _ (by omega) (by omega), h _ (by omega) (by omega), h _ (by omega) (by omega), fun i i0 i1 => h _ (by omega) (by omega)⟩
theorem chA_cp {A B : Int → Int} (h1 : A 1 = B 1) (h : ∀ i, 0 ≤ i → i < A 1 → A (76 + 2 * i) = B (76 + 2 * i) ∧ A (76 + 2 * i + 1) = B (76 + 2 * i + 1)) (x y : Int) : chA A x y = chA B x y := by
  have e : likA A x y = likA B x y := by
    unfold likA
    rw [← h1]
    exact lkA_EQ _ 0 (fun j a b => h j a (by omega))
  unfold chA
  rw [e]
/-- settings and what bills tell behind their marks, changed on both sides -/
theorem CI_mk {H H' : PH} {A A' : Int → Int} (hB : MB A) (h11 : A 11 ≤ 60) (h : CI H A) (f : ∀ i, i < 3 ∨ (10 ≤ i ∧ i < 92) ∨ 404 ≤ i → A' i = A i) (hs : ∀ b, 0 ≤ b → b < A 0 → A' (92 + 26 * b) = A (92 + 26 * b) ∧ ∀ i, 0 ≤ i → i < A (92 + 26 * b) → A' (92 + 26 * b + 1 + i) = A (92 + 26 * b + 1 + i)) (hH : ∀ c, ¬ c = 1 → ¬ (57 ≤ c ∧ c ≤ 92) → H' c = H c) (h0 : ∀ i, i = 2 ∨ i = 4 ∨ i = 5 → H' 1 i = H 1 i) (h1 : A' 3 = H' 1 7 ∧ A' 4 = H' 1 8 ∧ A' 5 = H' 1 9 ∧ A' 6 = H' 1 11 ∧ A' 7 = H' 1 12 ∧ A' 8 = H' 1 10 ∧ A' 9 = H' 1 13) (h2 : ∀ b, 0 ≤ b → b < A 0 → BRr (57 + 3 * b) H' A' (92 + 26 * b)) : CI H' A' := by
  obtain ⟨⟨a, b, c, d, e⟩, g, l⟩ := h
  have hA1 := hB.2.1
  have hA2 := hB.2.2.1
  have e0 : A' 0 = A 0 := f 0 (by decide)
  have e1 : A' 1 = A 1 := f 1 (by decide)
  have e2 : A' 2 = A 2 := f 2 (by decide)
  have e47 : H' 47 = H 47 := hH 47 (by decide) (by decide)
  have hc : ∀ x y, chA A x y = chA A' x y := chA_cp e1.symm (fun i i0 i1 => ⟨(f _ (by omega)).symm, (f _ (by omega)).symm⟩)
  have kl : ∀ q, KL q → H' q = H q ∧ H' (q + 1) = H (q + 1) := fun q hq => by
    have := KL_in hq
    exact ⟨hH q (by omega) (by omega), hH _ (by omega) (by omega)⟩
  refine ⟨⟨⟨?_, ?_, ?_, h1⟩, fun x x0 x1 => h2 x x0 (by omega), fun k k0 k1 => ?_, fun x y x0 x1 y0 y1 => ?_, ?_⟩, fun k k0 k1 => ?_, ?_⟩
  · rw [e0, h0 2 (by decide)]
    exact a.1
  · rw [e1, hH 2 (by decide) (by decide)]
    exact a.2.1
  · rw [e2, h0 4 (by decide)]
    exact a.2.2.1
  · have g := c k k0 (by omega)
    have v := g.2.2.2.2.1
    have kq := kl _ (l.1 k k0 (by omega))
    have g := LNr_EQ g (EL_out (B := A') (fun i i0 i1 => (f i (by omega)).symm) (by omega))
    unfold LNr at g ⊢
    rw [e47, kq.1]
    exact g
  · rw [hH _ (by omega) (by omega), d x y x0 x1 y0 y1]
    exact hc _ _
  · have kw := e.1
    have nw := KWz kw
    have no := KW_no kw
    obtain ⟨w0, w1, w2, w3⟩ := e
    have s0 : H 1 5 + 1 < 57 ∨ 92 < H 1 5 := by omega
    unfold LWr
    rw [h0 5 (by decide), hH (H 1 5) (by omega) (by omega), hH (H 1 5 + 1) (by omega) (by omega), f 10 (by decide), f 11 (by decide)]
    exact ⟨w0, w1, w2, fun k k0 k1 => by rw [f (12 + k) (by have := w2; omega)]; exact w3 k k0 k1⟩
  · have kq := kl _ (l.1 k k0 (by omega))
    obtain ⟨g0, g1⟩ := g k k0 (by omega)
    have gl := c k k0 (by omega)
    rw [e47, kq.1, kq.2, e0]
    refine ⟨g0, fun x x0 x1 x2 => ?_⟩
    rw [g1 x x0 x1 x2]
    have s := hs x x0 x2
    have hb := (b x x0 x2).1.2.1
    have v := gl.2.2.2.2.1
    unfold lapA apB apA
    rw [f (404 + 12 * k + 3) (by omega), s.1]
    refine apF_eq (by omega) (fun y z y0 y1 z0 z1 => ?_)
    rw [f (404 + 12 * k + 4 + y) (by omega), s.2 z z0 z1, hc]
  · unfold LDi
    rw [e47]
    exact l
/-- noting a deed leaves the state -/
theorem CI_nd {H : PH} {A : Int → Int} (hB : MB A) (h : CI H A) {l n k a b d : Int} (hl : 0 ≤ l ∧ l < 20) : CI (pup (pup (pup (pup (pup (pup (pup (pup (pup H 0 8 l) 0 7 n) (469 + 6 * l) 0 k) (469 + 6 * l) 1 a) (469 + 6 * l) 2 b) (469 + 6 * l) 3 d) 215 1 0) 221 2 0) 372 2 0) A := by
  obtain ⟨hC, g, hD⟩ := h
  have hA2 := hB.2.2.1
  have sd : ∀ c : Int, c = 469 + 6 * l → (zSh c.toNat).1 = 2 := by
    have q : (List.range 20).all (fun l => Nat.beq (zSh (469 + 6 * l)).1 2) = true := by decide +kernel
    intro c hc
    have := List.all_eq_true.mp q l.toNat (List.mem_range.mpr (by omega))
    rw [show c.toNat = 469 + 6 * l.toNat by omega]
    exact Nat.eq_of_beq_eq_true this
  have same : ∀ c, ¬ c = 0 → ¬ c = 215 → ¬ c = 221 → ¬ c = 372 → ¬ c = 469 + 6 * l → (pup (pup (pup (pup (pup (pup (pup (pup (pup H 0 8 l) 0 7 n) (469 + 6 * l) 0 k) (469 + 6 * l) 1 a) (469 + 6 * l) 2 b) (469 + 6 * l) 3 d) 215 1 0) 221 2 0) 372 2 0) c = H c := fun c c0 c1 c2 c3 c4 => by
    rw [xp_ne c3, xp_ne c2, xp_ne c1, xp_ne c4, xp_ne c4, xp_ne c4, xp_ne c4, xp_ne c0, xp_ne c0]
  have nl : ∀ q, KL q → ¬ q = 469 + 6 * l := fun q hq e => by
    have := hq.2.2
    have := sd q e
    omega
  have nl1 : ∀ q, KL q → ¬ q + 1 = 469 + 6 * l := fun q hq e => by
    have := KL_16 hq
    have := sd _ e
    omega
  have nw : ∀ w, KW w → ¬ w = 469 + 6 * l := fun q hq e => by
    have := hq.2.2
    have := sd q e
    omega
  have nw1 : ∀ w, KW w → ¬ w + 1 = 469 + 6 * l := fun q hq e => by
    have := (KW_16 hq).1
    have := sd _ e
    omega
  have e47 := same 47 (by decide) (by decide) (by decide) (by decide) (by omega)
  have e1 := same 1 (by decide) (by decide) (by decide) (by decide) (by omega)
  have hl : ∀ q, KL q → (pup (pup (pup (pup (pup (pup (pup (pup (pup H 0 8 l) 0 7 n) (469 + 6 * l) 0 k) (469 + 6 * l) 1 a) (469 + 6 * l) 2 b) (469 + 6 * l) 3 d) 215 1 0) 221 2 0) 372 2 0) q = H q ∧ (pup (pup (pup (pup (pup (pup (pup (pup (pup H 0 8 l) 0 7 n) (469 + 6 * l) 0 k) (469 + 6 * l) 1 a) (469 + 6 * l) 2 b) (469 + 6 * l) 3 d) 215 1 0) 221 2 0) 372 2 0) (q + 1) = H (q + 1) := fun q hq => by
    have k1 := KL_in hq
    have k2 := KZ (Or.inr hq)
    exact ⟨same q (by omega) (by omega) (by omega) (by omega) (nl q hq), same _ (by omega) (by omega) (by omega) (by omega) (nl1 q hq)⟩
  generalize (pup (pup (pup (pup (pup (pup (pup (pup (pup H 0 8 l) 0 7 n) (469 + 6 * l) 0 k) (469 + 6 * l) 1 a) (469 + 6 * l) 2 b) (469 + 6 * l) 3 d) 215 1 0) 221 2 0) 372 2 0) = H' at *
  obtain ⟨a1, a2, a3, a4, a5⟩ := hC
  refine ⟨⟨?_, fun x x0 x1 => ?_, fun k k0 k1 => ?_, fun x y x0 x1 y0 y1 => ?_, ?_⟩, fun k k0 k1 => ?_, ?_⟩
  · rw [e1, same 2 (by decide) (by decide) (by decide) (by decide) (by omega)]
    exact a1
  · have hA0 := hB.1
    have g := a2 x x0 x1
    unfold BRr at g ⊢
    rw [same (57 + 3 * x) (by omega) (by omega) (by omega) (by omega) (by omega), same (57 + 3 * x + 1) (by omega) (by omega) (by omega) (by omega) (by omega), same (57 + 3 * x + 2) (by omega) (by omega) (by omega) (by omega) (by omega)]
    exact g
  · have g := a3 k k0 k1
    unfold LNr at g ⊢
    rw [e47, (hl _ (hD.1 k k0 (by omega))).1]
    exact g
  · rw [same _ (by omega) (by omega) (by omega) (by omega) (by omega)]
    exact a4 x y x0 x1 y0 y1
  · have kw := a5.1
    have z := KZ (Or.inl kw)
    have w0 := KWz kw
    unfold LWr at a5 ⊢
    rw [e1, same (H 1 5) (by omega) (by omega) (by omega) (by omega) (nw _ kw), same (H 1 5 + 1) (by omega) (by omega) (by omega) (by omega) (nw1 _ kw)]
    exact a5
  · rw [e47, (hl _ (hD.1 k k0 (by omega))).1, (hl _ (hD.1 k k0 (by omega))).2]
    exact g k k0 k1
  · unfold LDi
    rw [e47]
    exact hD
/-! taken back -/
def unT (B : Int → Int) (a b c : Int) : Int → Int := xup (xup (xup B 0 a) 2 b) 1 c
theorem unT_at {B : Int → Int} {a b c i : Int} (h : 3 ≤ i) : unT B a b c i = B i := by
  unfold unT xup
  rw [if_neg (by omega), if_neg (by omega), if_neg (by omega)]
theorem unT_c {B : Int → Int} {a b c : Int} : unT B a b c 0 = a ∧ unT B a b c 1 = c ∧ unT B a b c 2 = b := by
  unfold unT xup
  simp
set_option maxRecDepth 100000 in
theorem sp_X1_cutTo (B : Int → Int) (a b c : Int) (H : PH) (hB : MB B) (cr : CR H B) (gb : ∀ k, 0 ≤ k → k < B 2 → 0 ≤ H (H 47 k) 4 ∧ H (H 47 k) 4 ≤ B 0) (gc : c = B 1 → GCr H B) (hD : LDi H) (cp : CPr H B) (ha : 0 ≤ a ∧ a ≤ B 0) (hb : 0 ≤ b ∧ b ≤ B 2) (hc : 0 ≤ c ∧ c ≤ B 1) : SPEC 11 [(2, 1), (0, a), (0, b), (0, c)] H (fun r H' => r = none ∧ CI H' (unT B a b c) ∧ CPr H' (unT B a b c) ∧ (∀ d, ¬ d = 1 → ¬ d = 2 → ¬ (5 ≤ d ∧ d ≤ 40) → ¬ KL d → H' d = H d) ∧ (∀ i, ¬ i = 2 → ¬ i = 4 → H' 1 i = H 1 i) ∧ (∀ i, ¬ i = 3 → H' 2 i = H 2 i) ∧ (∀ q, KL q → ∀ i, ¬ i = 4 → H' q i = H q i) ∧ ∀ d, ¬ d = 1 → ¬ d = 2 → ¬ (5 ≤ d ∧ d ≤ 40) → (∀ j, 0 ≤ j → j < b → ¬ d = H 47 j) → H' d = H d) := by
  intro E n res h
  obtain ⟨⟨a0, a1, a2, ar⟩, b1, b2, b3, b4⟩ := id cr
  have hA0 := hB.1
  have hA1 := hB.2.1
  have hA2 := hB.2.2.1
  have tb : TBq (lkC H (B 1)) H := (TBq_iff (lkC_iff hA1.1 cp)).mpr b3
  have n1 : ¬ KL 1 := fun w => by have := KL_in w; omega
  have n2 : ¬ KL 2 := fun w => by have := KL_in w; omega
  have n47 : ¬ KL 47 := fun w => by have := KL_in w; omega
  have e3 : H 2 3 = B 1 := a1.symm
  have cut : ∀ {H1 : PH}, H1 = pup (pup H 1 2 a) 1 4 b → SPEC 84 [(2, 2), (0, c)] H1 (fun r H' => r = none ∧ TBq (lkC H1 (min (B 1) c)) H' ∧ (∀ d, ¬ (5 ≤ d ∧ d ≤ 40) → ¬ d = 2 → H' d = H1 d) ∧ (∀ i, ¬ i = 3 → H' 2 i = H1 2 i) ∧ H' 2 3 = min (B 1) c) := by
    rintro H1 rfl
    refine sp_X8_cutCouples (B 1) c _ hA1 hc.1 (fun j j0 j1 => ?_) (fun i j i0 i1 j0 j1 w => ?_) ?_ ?_
    · obtain ⟨p1, p2, p3, _⟩ := cp.1 j j0 j1
      rw [xp_ne (by decide), xp_ne (by decide), xp_ne (by decide), xp_ne (by decide)]
      exact ⟨p1, p2, p3⟩
    · unfold mtC at w
      rw [xp_ne (by decide), xp_ne (by decide), xp_ne (by decide), xp_ne (by decide)] at w
      exact cp.2 i j i0 i1 j0 j1 w
    · rw [xp_ne (by decide), xp_ne (by decide)]
      exact e3
    · intro x y x0 x1 y0 y1
      have := tb x y x0 x1 y0 y1
      rw [xp_ne (by omega), xp_ne (by omega)]
      unfold lkC mtC at this ⊢
      rw [xp_ne (by decide), xp_ne (by decide), xp_ne (by decide), xp_ne (by decide)]
      exact this
  have fin : ∀ (H2 H3 : PH) (v : Int), v = (if c < B 1 then 0 else a) → (TBq (lkC (pup (pup H 1 2 a) 1 4 b) (min (B 1) c)) H2 ∧ (∀ d, ¬ (5 ≤ d ∧ d ≤ 40) → ¬ d = 2 → H2 d = pup (pup H 1 2 a) 1 4 b d) ∧ (∀ i, ¬ i = 3 → H2 2 i = pup (pup H 1 2 a) 1 4 b 2 i) ∧ H2 2 3 = min (B 1) c) → ((∀ d, ¬ KL d → H3 d = H2 d) ∧ (∀ q, KL q → ∀ i, ¬ i = 4 → H3 q i = H2 q i) ∧ (∀ j, 0 ≤ j → j < H2 1 4 → H3 (H2 47 j) 4 = min (H2 (H2 47 j) 4) v) ∧ ∀ d, (∀ j, 0 ≤ j → j < H2 1 4 → ¬ d = H2 47 j) → H3 d = H2 d) → CI H3 (unT B a b c) ∧ CPr H3 (unT B a b c) ∧ (∀ d, ¬ d = 1 → ¬ d = 2 → ¬ (5 ≤ d ∧ d ≤ 40) → ¬ KL d → H3 d = H d) ∧ (∀ i, ¬ i = 2 → ¬ i = 4 → H3 1 i = H 1 i) ∧ (∀ i, ¬ i = 3 → H3 2 i = H 2 i) ∧ (∀ q, KL q → ∀ i, ¬ i = 4 → H3 q i = H q i) ∧ ∀ d, ¬ d = 1 → ¬ d = 2 → ¬ (5 ≤ d ∧ d ≤ 40) → (∀ j, 0 ≤ j → j < b → ¬ d = H 47 j) → H3 d = H d := by
    rintro H2 H3 v hv ⟨c1, c2, c3, c4⟩ ⟨k1, k2, k3, k5⟩
    have f : ∀ d, ¬ d = 1 → ¬ d = 2 → ¬ (5 ≤ d ∧ d ≤ 40) → ¬ KL d → H3 d = H d := fun d d1 d2 d3 d4 => by
      rw [k1 d d4, c2 d d3 d2, xp_ne d1, xp_ne d1]
    have f1 : ∀ i, H3 1 i = pup (pup H 1 2 a) 1 4 b 1 i := fun i => by rw [k1 1 n1, c2 1 (by decide) (by decide)]
    have fq : ∀ q, KL q → ∀ i, ¬ i = 4 → H3 q i = H q i := fun q hq i hi => by
      have := KL_in hq
      rw [k2 q hq i hi, c2 q (by omega) (by omega), xp_ne (by omega), xp_ne (by omega)]
    have e47 : H3 47 = H 47 := f 47 (by decide) (by decide) (by decide) n47
    have e47b : H2 47 = H 47 := by rw [c2 47 (by decide) (by decide), xp_ne (by decide), xp_ne (by decide)]
    have e14 : H2 1 4 = b := by rw [c2 1 (by decide) (by decide), xp_at, if_pos rfl]
    have nk : ∀ d : Int, d ≤ 92 → ¬ KL d := fun d hd w => by have := KL_in w; omega
    have cp3 : CPr H3 (unT B a b c) := by
      unfold CPr mtC
      rw [f 42 (by decide) (by decide) (by decide) (nk 42 (by decide)), f 43 (by decide) (by decide) (by decide) (nk 43 (by decide)), unT_c.2.1]
      refine ⟨fun j j0 j1 => ?_, fun i j i0 i1 j0 j1 w => cp.2 i j i0 (by omega) j0 (by omega) w⟩
      rw [unT_at (by omega), unT_at (by omega)]
      exact cp.1 j j0 (by omega)
    have tb3 : TBq (lkC H3 (unT B a b c 1)) H3 := by
      intro x y x0 x1 y0 y1
      have := c1 x y x0 x1 y0 y1
      rw [show min (B 1) c = c by omega] at this
      rw [k1 (4 + x) (nk _ (by omega)), unT_c.2.1]
      unfold lkC mtC at this ⊢
      rw [xp_ne (by decide), xp_ne (by decide), xp_ne (by decide), xp_ne (by decide)] at this
      rw [f 42 (by decide) (by decide) (by decide) (nk 42 (by decide)), f 43 (by decide) (by decide) (by decide) (nk 43 (by decide))]
      exact this
    refine ⟨⟨⟨⟨?_, ?_, ?_, ?_⟩, fun x x0 x1 => ?_, fun k k0 k1' => ?_, ?_, ?_⟩, fun k k0 k1' => ?_, ?_⟩, cp3, f, fun i i2 i4 => ?_, fun i i3 => ?_, fq, fun d d1 d2 d3 dj => ?_⟩
    · rw [unT_c.1, f1, xp_at, if_neg (by decide), xp_at, if_pos rfl]
    · rw [unT_c.2.1, k1 2 n2, c4]
      omega
    · rw [unT_c.2.2, f1, xp_at, if_pos rfl]
    · simp only [f1, unT_at (show (3 : Int) ≤ 3 by decide), unT_at (show (3 : Int) ≤ 4 by decide), unT_at (show (3 : Int) ≤ 5 by decide), unT_at (show (3 : Int) ≤ 6 by decide), unT_at (show (3 : Int) ≤ 7 by decide), unT_at (show (3 : Int) ≤ 8 by decide), unT_at (show (3 : Int) ≤ 9 by decide), xp_at]
      exact ar
    · rw [unT_c.1] at x1
      have g := b1 x x0 (by omega)
      have v0 := g.1.2.1
      have v6 := hB.2.2.2.2.1 x x0 (by omega)
      have g := BRr_EQ g (EB_out (B := unT B a b c) (fun i i0 i1 => (unT_at (by omega)).symm) (by omega) (by omega))
      unfold BRr at g ⊢
      rw [f (57 + 3 * x) (by omega) (by omega) (by omega) (nk _ (by omega)), f (57 + 3 * x + 1) (by omega) (by omega) (by omega) (nk _ (by omega)), f (57 + 3 * x + 2) (by omega) (by omega) (by omega) (nk _ (by omega))]
      exact g
    · rw [unT_c.2.2] at k1'
      have g := b2 k k0 (by omega)
      have v0 := g.2.2.2.2.1
      have kq := hD.1 k k0 (by omega)
      have g := LNr_EQ g (EL_out (B := unT B a b c) (fun i i0 i1 => (unT_at (by omega)).symm) (by omega))
      unfold LNr at g ⊢
      rw [e47, fq _ kq 0 (by decide), fq _ kq 1 (by decide), fq _ kq 2 (by decide), fq _ kq 3 (by decide)]
      exact g
    · exact (TBq_iff (lkC_iff (by rw [unT_c.2.1]; exact hc.1) cp3)).mp tb3
    · have kw := b4.1
      have nw := KWz kw
      have no := KW_no kw
      have s0 : H 1 5 + 1 < 57 ∨ 92 < H 1 5 := by omega
      obtain ⟨w0, w1, w2, w3⟩ := b4
      have e5 : H3 1 5 = H 1 5 := by rw [f1, xp_at, if_neg (by decide), xp_at, if_neg (by decide)]
      unfold LWr
      rw [e5, f (H 1 5) (by omega) (by omega) (by omega) no.2.2.2.2.1, f (H 1 5 + 1) (by omega) (by omega) (by omega) no.2.2.2.2.2.1, unT_at (by decide), unT_at (by decide)]
      exact ⟨w0, w1, w2, fun k k0 k1 => by rw [unT_at (by omega)]; exact w3 k k0 k1⟩
    · rw [unT_c.2.2] at k1'
      have kq := hD.1 k k0 (by omega)
      have hq := KL_in kq
      have m := k3 k k0 (by omega)
      rw [e47b] at m
      rw [e47, m, f (H 47 k + 1) (by omega) (by omega) (by omega) hq.2.2.1, unT_c.1]
      have e4 : H2 (H 47 k) 4 = H (H 47 k) 4 := by rw [c2 _ (by omega) (by omega), xp_ne (by omega), xp_ne (by omega)]
      rw [e4, hv]
      have g0 := gb k k0 (by omega)
      refine ⟨by split <;> omega, fun x x0 x1 x2 => ?_⟩
      by_cases q : c < B 1
      · rw [if_pos q] at x1
        omega
      · rw [if_neg q] at x1
        have ec : c = B 1 := by omega
        have g1 := (gc ec k k0 (by omega)).2
        have vb := (b1 x x0 (by omega)).1.2.1
        have vl := (b2 k k0 (by omega)).2.2.2.2.1
        have v6 := hB.2.2.2.2.1 x x0 (by omega)
        rw [g1 x x0 (by omega) (by omega)]
        exact lapA_EQ (chA_cp (by rw [unT_c.2.1, ec]) (fun i i0 i1 => ⟨(unT_at (by omega)).symm, (unT_at (by omega)).symm⟩)) (by omega) (EB_out (fun i i0 i1 => (unT_at (by omega)).symm) (by omega) (by omega)) (EL_out (fun i i0 i1 => (unT_at (by omega)).symm) (by omega))
    · unfold LDi
      rw [e47]
      exact hD
    · rw [f1, xp_at, if_neg i4, xp_at, if_neg i2]
    · rw [k1 2 n2, c3 i i3, xp_ne (by decide), xp_ne (by decide)]
    · rw [k5 d (fun j j0 j1 => by rw [e47b]; exact dj j j0 (by omega)), c2 d d3 d2, xp_ne d1, xp_ne d1]
  have hD2 : ∀ (H2 : PH), (∀ d, ¬ (5 ≤ d ∧ d ≤ 40) → ¬ d = 2 → H2 d = pup (pup H 1 2 a) 1 4 b d) → LDi H2 ∧ 0 ≤ H2 1 4 ∧ H2 1 4 ≤ 60 := fun H2 c2 => by
    have e47b : H2 47 = H 47 := by rw [c2 47 (by decide) (by decide), xp_ne (by decide), xp_ne (by decide)]
    have e14 : H2 1 4 = b := by rw [c2 1 (by decide) (by decide), xp_at, if_pos rfl]
    refine ⟨?_, by omega, by omega⟩
    unfold LDi
    rw [e47b]
    exact hD
  by_cases q : c < B 1
  · have h := call_runP 5 vm_X1_cutTo h
    have h := xw_top (hd := []) 7 xD6_ok xc_X1_cutTo xa_X1_cutTo (t := 0) rfl h
    simp (maxDischargeDepth := 12) -implicitDefEqProofs [vb_X1_cutTo_0, vb_X1_cutTo_15, vb_X1_cutTo_16, vb_X1_cutTo_46, vb_X1_cutTo_47, xI_0, xI_1, xI_3, xI_7, xI_36, xI_37, xI_48, xI_49, xI_50, xI_61, xI_65, xw_X1_cutTo_0, xw_X1_cutTo_15, xw_X1_cutTo_16, xw_X1_cutTo_46, xw_X1_cutTo_47, zw_lit, xB_c, xB_s, xB_n, i1_c, j2_c, k1_c, jJ_e, xlg, xls, xla, xpd, ppush, zw_m1, zw_m2, zw_m3, gf_1_0, gf_8_3, pf_1_2, pf_1_4, tg_1_0, tg_1_2, tg_1_4, tg_8_3, gv_1_0, gv_2_3, xD1, xD2, xD3, xD4, xD5, xD6, xb1_0, e3, q] at h
    have h := h.resolve_left (fun w => by have := w.1; omega)
    obtain ⟨r, H2, ⟨rfl, c1, c2, c3, c4⟩, h⟩ := xc_use h (cut rfl)
    obtain ⟨d1, d2⟩ := hD2 H2 c2
    obtain ⟨r, H3, ⟨rfl, k1, k2, k3, k4⟩, h⟩ := xc_use h (sp_X1_keepMeasured 0 H2 d1 d2)
    exact ⟨none, H3, h, rfl, fin H2 H3 0 (by rw [if_pos q]) ⟨c1, c2, c3, c4⟩ ⟨k1, k2, k3, k4⟩⟩
  · have h := call_runP 5 vm_X1_cutTo h
    have h := xw_top (hd := []) 7 xD6_ok xc_X1_cutTo xa_X1_cutTo (t := 0) rfl h
    simp (maxDischargeDepth := 12) -implicitDefEqProofs [vb_X1_cutTo_0, vb_X1_cutTo_15, vb_X1_cutTo_16, vb_X1_cutTo_46, vb_X1_cutTo_47, xI_0, xI_1, xI_3, xI_7, xI_36, xI_37, xI_48, xI_49, xI_50, xI_61, xI_65, xw_X1_cutTo_0, xw_X1_cutTo_15, xw_X1_cutTo_16, xw_X1_cutTo_46, xw_X1_cutTo_47, zw_lit, xB_c, xB_s, xB_n, i1_c, j2_c, k1_c, jJ_e, xlg, xls, xla, xpd, ppush, zw_m1, zw_m2, zw_m3, gf_1_0, gf_8_3, pf_1_2, pf_1_4, tg_1_0, tg_1_2, tg_1_4, tg_8_3, gv_1_0, gv_2_3, xD1, xD2, xD3, xD4, xD5, xD6, xb1_0, e3, q] at h
    have h := h.2
    obtain ⟨r, H2, ⟨rfl, c1, c2, c3, c4⟩, h⟩ := xc_use h (cut rfl)
    obtain ⟨d1, d2⟩ := hD2 H2 c2
    obtain ⟨r, H3, ⟨rfl, k1, k2, k3, k4⟩, h⟩ := xc_use h (sp_X1_keepMeasured a H2 d1 d2)
    exact ⟨none, H3, h, rfl, fin H2 H3 a (by rw [if_neg q]) ⟨c1, c2, c3, c4⟩ ⟨k1, k2, k3, k4⟩⟩
