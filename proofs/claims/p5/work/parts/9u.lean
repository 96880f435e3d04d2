/-! ===== what was done, and what takes it back ===== -/
/-- rows alike at their places -/
def AG (A B : Int → Int) : Prop := ∀ k, 0 ≤ k → k < 1124 → A k = B k
theorem AG_refl (A : Int → Int) : AG A A := fun _ _ _ => rfl
theorem AG_symm {A B : Int → Int} (h : AG A B) : AG B A := fun k a b => (h k a b).symm
theorem AG_trans {A B C : Int → Int} (h : AG A B) (g : AG B C) : AG A C := fun k a b => (h k a b).trans (g k a b)
theorem AG_xup {A B : Int → Int} {i v u : Int} (h : AG A B) (e : v = u) : AG (xup A i v) (xup B i u) := fun k a b => by
  unfold xup
  rw [h k a b, e]
theorem EB_b {A C : Int → Int} {b : Int} (h : EB A C (92 + 26 * b)) (hC : MB C) (b0 : 0 ≤ b) (b1 : b < 12) : A (92 + 26 * b) ≤ 8 ∧ A (92 + 26 * b + 13) ≤ 6 := by
  have g1 := (hC.2.2.2.1 b b0 b1).2
  have g2 := (hC.2.2.2.2.1 b b0 b1).2
  obtain ⟨e1, _, _, _, _, _, e2, _⟩ := h
  omega
theorem REq_AGl {A A2 C : Int → Int} (h : REq A C) (hC : MB C) (h11 : C 11 ≤ 60) (g : AG A A2) : REq A2 C := by
  have c0 := hC.1
  have c1 := hC.2.1
  have c2 := hC.2.2.1
  obtain ⟨r0, r1, r2, r3, r4⟩ := h
  have e0 := g 0 (by decide) (by decide)
  have e1 := g 1 (by decide) (by decide)
  have e2 := g 2 (by decide) (by decide)
  have e11 := g 11 (by decide) (by decide)
  have f0 := r0 0 (by decide) (by decide)
  have f1 := r0 1 (by decide) (by decide)
  have f2 := r0 2 (by decide) (by decide)
  have f11 := r0 11 (by decide) (by decide)
  refine ⟨fun i i0 i1 => ?_, fun i i0 i1 => ?_, fun b b0 b1 => ?_, fun k k0 k1 => ?_, fun k k0 k1 => ?_⟩
  · rw [← g i i0 (by omega)]
    exact r0 i i0 i1
  · rw [← g _ (by omega) (by omega), ← g _ (by omega) (by omega)]
    exact r1 i i0 (by omega)
  · have q := r2 b b0 (by omega)
    have hb := EB_b q hC b0 (by omega)
    exact ⟨by rw [← g _ (by omega) (by omega)]; exact q.1, fun i i0 i1 => by
      rw [← g _ (by omega) (by omega)] at i1
      rw [← g _ (by omega) (by omega)]
      exact q.2.1 i i0 i1, by rw [← g _ (by omega) (by omega)]; exact q.2.2.1, by rw [← g _ (by omega) (by omega)]; exact q.2.2.2.1, by rw [← g _ (by omega) (by omega)]; exact q.2.2.2.2.1, by rw [← g _ (by omega) (by omega)]; exact q.2.2.2.2.2.1, by rw [← g _ (by omega) (by omega)]; exact q.2.2.2.2.2.2.1, fun i i0 i1 => by
      rw [← g _ (by omega) (by omega)] at i1
      rw [← g _ (by omega) (by omega), ← g _ (by omega) (by omega)]
      exact q.2.2.2.2.2.2.2 i i0 i1⟩
  · have q := r3 k k0 (by omega)
    have hk : A (404 + 12 * k + 3) ≤ 8 := by
      have := (hC.2.2.2.2.2.1 k k0 (by omega)).2
      have := q.2.2.2.1
      omega
    exact ⟨by rw [← g _ (by omega) (by omega)]; exact q.1, by rw [← g _ (by omega) (by omega)]; exact q.2.1, by rw [← g _ (by omega) (by omega)]; exact q.2.2.1, by rw [← g _ (by omega) (by omega)]; exact q.2.2.2.1, fun i i0 i1 => by
      rw [← g _ (by omega) (by omega)] at i1
      rw [← g _ (by omega) (by omega)]
      exact q.2.2.2.2 i i0 i1⟩
  · rw [← g _ (by omega) (by omega)]
    exact r4 k k0 (by omega)
theorem REq_AG {A B : Int → Int} (hA : MB A) (h11 : A 11 ≤ 60) (g : AG A B) : REq A B := REq_symm (REq_AGl (REq_refl A) hA h11 g)
theorem MB_AG {A B : Int → Int} (h : MB A) (g : AG A B) : MB B := by
  obtain ⟨a0, a1, a2, a3, a4, a5, a6⟩ := h
  refine ⟨by rw [← g 0 (by decide) (by decide)]; exact a0, by rw [← g 1 (by decide) (by decide)]; exact a1, by rw [← g 2 (by decide) (by decide)]; exact a2, fun b b0 b1 => by rw [← g _ (by omega) (by omega)]; exact a3 b b0 b1, fun b b0 b1 => by rw [← g _ (by omega) (by omega)]; exact a4 b b0 b1, fun b b0 b1 => by rw [← g _ (by omega) (by omega)]; exact a5 b b0 b1, fun i i0 i1 => by rw [← g i i0 i1]; exact a6 i i0 i1⟩
theorem WFL_eq {w w' : Nat → Int} {sz : Int} (h : WFL w sz) (e : ∀ k : Nat, (k : Int) < sz → w k = w' k) : WFL w' sz := by
  obtain ⟨h0, h1, h2⟩ := h
  have dp : ∀ k : Nat, (k : Int) ≤ sz → dpF w' k = dpF w k := by
    intro k
    induction k with
    | zero => intro _; rfl
    | succ k ih =>
      intro hk
      unfold dpF
      rw [ih (by omega), e k (by omega)]
  exact ⟨h0, h1, fun k hk => by rw [← e k hk, dp k (by omega)]; exact h2 k hk⟩
theorem ML_AG {A B : Int → Int} (h : ML A) (g : AG A B) : ML B := by
  obtain ⟨h1, h2⟩ := h
  have e10 := g 10 (by decide) (by decide)
  have e11 := g 11 (by decide) (by decide)
  unfold ML
  rw [← e10, ← e11]
  exact ⟨WFL_eq h1 (fun k hk => g _ (by omega) (by have := h1.2.1; omega)), h2⟩
/-- numbers of bills and lines -/
def OKX (A : Int → Int) : Prop := (∀ b, 0 ≤ b → b < A 0 → (1 ≤ A (92 + 26 * b + 9) ∧ A (92 + 26 * b + 9) ≤ 999) ∧ (1 ≤ A (92 + 26 * b + 10) ∧ A (92 + 26 * b + 10) ≤ 9999) ∧ (0 ≤ A (92 + 26 * b + 11) ∧ A (92 + 26 * b + 11) ≤ 999) ∧ ∀ i, 0 ≤ i → i < A (92 + 26 * b + 13) → (0 ≤ A (92 + 26 * b + 14 + 2 * i) ∧ A (92 + 26 * b + 14 + 2 * i) ≤ 3) ∧ (0 ≤ A (92 + 26 * b + 14 + 2 * i + 1) ∧ A (92 + 26 * b + 14 + 2 * i + 1) ≤ 999)) ∧ ∀ k, 0 ≤ k → k < A 2 → (0 ≤ A (404 + 12 * k) ∧ A (404 + 12 * k) ≤ 1) ∧ (0 ≤ A (404 + 12 * k + 1) ∧ A (404 + 12 * k + 1) ≤ 4) ∧ (1 ≤ A (404 + 12 * k + 2) ∧ A (404 + 12 * k + 2) ≤ 999)
/-- the settings -/
def OKS (A : Int → Int) : Prop := (0 ≤ A 3 ∧ A 3 ≤ 20) ∧ (0 ≤ A 4 ∧ A 4 ≤ 24) ∧ (1 ≤ A 5 ∧ A 5 ≤ 9999) ∧ (0 ≤ A 6 ∧ A 6 ≤ 99) ∧ (0 ≤ A 7 ∧ A 7 ≤ 999) ∧ (0 ≤ A 8 ∧ A 8 ≤ 99)
def OKR (A : Int → Int) : Prop := MB A ∧ ML A ∧ OKS A ∧ OKX A
theorem OKX_AG {A B : Int → Int} (hA : MB A) (h : OKX A) (g : AG A B) : OKX B := by
  have a0 := hA.1
  have a2 := hA.2.2.1
  have e0 := g 0 (by decide) (by decide)
  have e2 := g 2 (by decide) (by decide)
  refine ⟨fun b b0 b1 => ?_, fun k k0 k1 => ?_⟩
  · obtain ⟨x1, x2, x3, x4⟩ := h.1 b b0 (by omega)
    have r6 := (hA.2.2.2.2.1 b b0 (by omega)).2
    have e13 := g (92 + 26 * b + 13) (by omega) (by omega)
    refine ⟨by rw [← g _ (by omega) (by omega)]; exact x1, by rw [← g _ (by omega) (by omega)]; exact x2, by rw [← g _ (by omega) (by omega)]; exact x3, fun i i0 i1 => ?_⟩
    rw [← g _ (by omega) (by omega), ← g (92 + 26 * b + 14 + 2 * i + 1) (by omega) (by omega)]
    exact x4 i i0 (by omega)
  · obtain ⟨x1, x2, x3⟩ := h.2 k k0 (by omega)
    exact ⟨by rw [← g _ (by omega) (by omega)]; exact x1, by rw [← g _ (by omega) (by omega)]; exact x2, by rw [← g _ (by omega) (by omega)]; exact x3⟩
theorem OKR_AG {A B : Int → Int} (h : OKR A) (g : AG A B) : OKR B := by
  obtain ⟨h1, h2, h3, h4⟩ := h
  refine ⟨MB_AG h1 g, ML_AG h2 g, ?_, OKX_AG h1 h4 g⟩
  unfold OKS at h3 ⊢
  rw [← g 3 (by decide) (by decide), ← g 4 (by decide) (by decide), ← g 5 (by decide) (by decide), ← g 6 (by decide) (by decide), ← g 7 (by decide) (by decide), ← g 8 (by decide) (by decide)]
  exact h3
theorem OKR_11 {A : Int → Int} (h : OKR A) : 0 ≤ A 11 ∧ A 11 ≤ 60 := ⟨h.2.1.1.1, h.2.1.1.2.1⟩
/-- all laws' and lines' cells differ -/
def LDA (H : PH) : Prop := LDi H ∧ (∀ l, 0 ≤ l → l < 20 → KW (H (469 + 6 * l) 4) ∧ KL (H (469 + 6 * l) 5)) ∧ (KW (H 1 5) ∧ KW (H 1 6) ∧ ¬ H 1 5 = H 1 6) ∧ (∀ l, 0 ≤ l → l < 20 → ¬ H (469 + 6 * l) 4 = H 1 5 ∧ ¬ H (469 + 6 * l) 4 = H 1 6) ∧ (∀ l m, 0 ≤ l → l < 20 → 0 ≤ m → m < 20 → H (469 + 6 * l) 4 = H (469 + 6 * m) 4 → l = m) ∧ (∀ l k, 0 ≤ l → l < 20 → 0 ≤ k → k < 60 → ¬ H (469 + 6 * l) 5 = H 47 k) ∧ ∀ l m, 0 ≤ l → l < 20 → 0 ≤ m → m < 20 → H (469 + 6 * l) 5 = H (469 + 6 * m) 5 → l = m
/-- a line is put between others -/
def insL (B C : Int → Int) (a : Int) : Int → Int := fun j => if j = 2 then B 2 + 1 else if j < 404 + 12 * a then B j else if j < 404 + 12 * a + 12 then C j else B (j - 12)
/-- another law -/
def lwU (B C : Int → Int) : Int → Int := fun j => if 10 ≤ j ∧ j < 76 then C j else B j
/-- a deed at its place, between the row that is and the one that was -/
def DD (H : PH) (l : Int) (B C : Int → Int) : Prop :=
  (H (469 + 6 * l) 0 = 0 ∧ REq (unT B (H (469 + 6 * l) 1) (H (469 + 6 * l) 2) (H (469 + 6 * l) 3)) C ∧ (0 ≤ H (469 + 6 * l) 1 ∧ H (469 + 6 * l) 1 ≤ B 0) ∧ (0 ≤ H (469 + 6 * l) 2 ∧ H (469 + 6 * l) 2 ≤ B 2) ∧ (0 ≤ H (469 + 6 * l) 3 ∧ H (469 + 6 * l) 3 ≤ B 1)) ∨
  (H (469 + 6 * l) 0 = 1 ∧ REq (lwU B C) C ∧ LWr (H (469 + 6 * l) 4) H C) ∨
  (H (469 + 6 * l) 0 = 2 ∧ (0 ≤ H (469 + 6 * l) 1 ∧ H (469 + 6 * l) 1 < B 0) ∧ 1 ≤ B (92 + 26 * H (469 + 6 * l) 1 + 13) ∧ REq (xup B (92 + 26 * H (469 + 6 * l) 1 + 13) (B (92 + 26 * H (469 + 6 * l) 1 + 13) - 1)) C) ∨
  (H (469 + 6 * l) 0 = 3 ∧ (0 ≤ H (469 + 6 * l) 1 ∧ H (469 + 6 * l) 1 < B 0) ∧ REq (xup B (92 + 26 * H (469 + 6 * l) 1 + 11) (H (469 + 6 * l) 2)) C) ∨
  (H (469 + 6 * l) 0 = 4 ∧ REq (xup B 3 (H (469 + 6 * l) 1)) C) ∨
  (H (469 + 6 * l) 0 = 5 ∧ REq (xup B 4 (H (469 + 6 * l) 1)) C) ∨
  (H (469 + 6 * l) 0 = 6 ∧ REq (xup B 5 (H (469 + 6 * l) 1)) C) ∨
  (H (469 + 6 * l) 0 = 7 ∧ (0 ≤ H (469 + 6 * l) 1 ∧ H (469 + 6 * l) 1 ≤ B 2) ∧ B 2 < 60 ∧ REq (insL B C (H (469 + 6 * l) 1)) C ∧ LNr (H (469 + 6 * l) 5) H C (404 + 12 * H (469 + 6 * l) 1) ∧ (0 ≤ H (H (469 + 6 * l) 5) 4 ∧ H (H (469 + 6 * l) 5) 4 ≤ C 0) ∧ ∀ b, 0 ≤ b → b < H (H (469 + 6 * l) 5) 4 → b < C 0 → H (H (469 + 6 * l) 5 + 1) b = lapA C (H (469 + 6 * l) 1) b) ∨
  (H (469 + 6 * l) 0 = 8 ∧ REq (xup B 8 (H (469 + 6 * l) 1)) C) ∨
  (H (469 + 6 * l) 0 = 9 ∧ REq (xup (xup B 6 (H (469 + 6 * l) 1)) 7 (H (469 + 6 * l) 2)) C) ∨
  (H (469 + 6 * l) 0 = 10 ∧ (0 ≤ H (469 + 6 * l) 1 ∧ H (469 + 6 * l) 1 < B 0) ∧ REq (xup (xup B (92 + 26 * H (469 + 6 * l) 1 + 12) (zw (B (92 + 26 * H (469 + 6 * l) 1 + 12) - H (469 + 6 * l) 2))) 9 (zw (B 9 - H (469 + 6 * l) 3))) C)
theorem DD_AG {H : PH} {l : Int} {B B2 C : Int → Int} (hB : (B 0 ≤ 12) ∧ B 2 ≤ 60) (hC : MB C) (h11 : C 11 ≤ 60) (g : AG B B2) (h : DD H l B C) : DD H l B2 C := by
  have e0 := g 0 (by decide) (by decide)
  have e1 := g 1 (by decide) (by decide)
  have e2 := g 2 (by decide) (by decide)
  have e9 := g 9 (by decide) (by decide)
  have tr : ∀ {X Y : Int → Int}, AG X Y → REq X C → REq Y C := fun p q => REq_AGl q hC h11 p
  rcases h with ⟨k, r, x1, x2, x3⟩ | ⟨k, r, x⟩ | ⟨k, x1, x2, r⟩ | ⟨k, x1, r⟩ | ⟨k, r⟩ | ⟨k, r⟩ | ⟨k, r⟩ | ⟨k, x1, x2, r, x3⟩ | ⟨k, r⟩ | ⟨k, r⟩ | ⟨k, x1, r⟩
  · exact Or.inl ⟨k, tr (AG_xup (AG_xup (AG_xup g rfl) rfl) rfl) r, by omega, by omega, by omega⟩
  · exact Or.inr (Or.inl ⟨k, tr (fun j a b => by unfold lwU; rw [g j a b]) r, x⟩)
  · have e := g (92 + 26 * H (469 + 6 * l) 1 + 13) (by omega) (by omega)
    exact Or.inr (Or.inr (Or.inl ⟨k, by omega, by omega, tr (AG_xup g (by rw [e])) r⟩))
  · exact Or.inr (Or.inr (Or.inr (Or.inl ⟨k, by omega, tr (AG_xup g rfl) r⟩)))
  · exact Or.inr (Or.inr (Or.inr (Or.inr (Or.inl ⟨k, tr (AG_xup g rfl) r⟩))))
  · exact Or.inr (Or.inr (Or.inr (Or.inr (Or.inr (Or.inl ⟨k, tr (AG_xup g rfl) r⟩)))))
  · exact Or.inr (Or.inr (Or.inr (Or.inr (Or.inr (Or.inr (Or.inl ⟨k, tr (AG_xup g rfl) r⟩))))))
  · refine Or.inr (Or.inr (Or.inr (Or.inr (Or.inr (Or.inr (Or.inr (Or.inl ⟨k, by omega, by omega, tr (fun j a b => ?_) r, x3⟩)))))))
    unfold insL
    rw [e2]
    split
    · rfl
    · split
      · exact g j a b
      · split
        · rfl
        · exact g _ (by omega) (by omega)
  · exact Or.inr (Or.inr (Or.inr (Or.inr (Or.inr (Or.inr (Or.inr (Or.inr (Or.inl ⟨k, tr (AG_xup g rfl) r⟩))))))))
  · exact Or.inr (Or.inr (Or.inr (Or.inr (Or.inr (Or.inr (Or.inr (Or.inr (Or.inr (Or.inl ⟨k, tr (AG_xup (AG_xup g rfl) rfl) r⟩)))))))))
  · have e := g (92 + 26 * H (469 + 6 * l) 1 + 12) (by omega) (by omega)
    exact Or.inr (Or.inr (Or.inr (Or.inr (Or.inr (Or.inr (Or.inr (Or.inr (Or.inr (Or.inr ⟨k, by omega, tr (AG_xup (AG_xup g (by rw [e])) (by rw [e9])) r⟩)))))))))
/-- the cells of a deed as they were -/
def LGc (H H' : PH) (l : Int) : Prop := H' (469 + 6 * l) = H (469 + 6 * l) ∧ (H' (H (469 + 6 * l) 4) 2 = H (H (469 + 6 * l) 4) 2 ∧ H' (H (469 + 6 * l) 4) 3 = H (H (469 + 6 * l) 4) 3) ∧ H' (H (469 + 6 * l) 4 + 1) = H (H (469 + 6 * l) 4 + 1) ∧ H' (H (469 + 6 * l) 5) = H (H (469 + 6 * l) 5) ∧ H' (H (469 + 6 * l) 5 + 1) = H (H (469 + 6 * l) 5 + 1)
theorem DD_fr {H H' : PH} {l : Int} {B C : Int → Int} (g : LGc H H' l) (h : DD H l B C) : DD H' l B C := by
  obtain ⟨g1, g2, g3, g4, g5⟩ := g
  unfold DD LWr LNr at h ⊢
  rw [g1, g3, g4, g5, g2.1, g2.2]
  exact h
/-- where deed e from the newest on lies -/
def rpl (l e : Int) : Int := if e ≤ l then l - e else l - e + 20
theorem rpl_in {l e : Int} (hl : 0 ≤ l ∧ l ≤ 19) (he : 0 ≤ e ∧ e < 20) : 0 ≤ rpl l e ∧ rpl l e < 20 := by
  unfold rpl
  split <;> omega
theorem rpl_dnx {l e : Int} (hl : 0 ≤ l ∧ l ≤ 19) (he : 0 ≤ e ∧ e < 19) : rpl (dnx l) (e + 1) = rpl l e := by
  unfold rpl dnx
  repeat' split
  all_goals omega
theorem rpl_0 {l : Int} (hl : 0 ≤ l ∧ l ≤ 19) : rpl l 0 = l := by
  unfold rpl
  rw [if_pos hl.1]
  omega
theorem rpl_ne {l e : Int} (hl : 0 ≤ l ∧ l ≤ 19) (he : 0 ≤ e ∧ e < 19) : ¬ rpl l e = dnx l := by
  unfold rpl dnx
  repeat' split
  all_goals omega
theorem dnx_in {l : Int} (hl : 0 ≤ l ∧ l ≤ 19) : 0 ≤ dnx l ∧ dnx l < 20 := by
  unfold dnx
  split <;> omega
/-- the class's state says what the rows say, the newest first -/
def RC (H : PH) (S : Int → Int → Int) (n : Int) : Prop := CI H (S 0) ∧ CPr H (S 0) ∧ LDA H ∧ ((0 ≤ n ∧ n ≤ 20) ∧ H 0 7 = n) ∧ (0 ≤ H 0 8 ∧ H 0 8 ≤ 19) ∧ (∀ e, 0 ≤ e → e ≤ n → OKR (S e)) ∧ ∀ e, 0 ≤ e → e < n → DD H (rpl (H 0 8) e) (S e) (S (e + 1))
def cns (B : Int → Int) (S : Int → Int → Int) : Int → Int → Int := fun e => if e ≤ 0 then B else S (e - 1)
def hd0 (B : Int → Int) (S : Int → Int → Int) : Int → Int → Int := fun e => if e ≤ 0 then B else S e
/-- the newest row, said another way -/
theorem RC_hd {H : PH} {S : Int → Int → Int} {n : Int} {B : Int → Int} (h : RC H S n) (g : AG (S 0) B) : RC H (hd0 B S) n := by
  obtain ⟨h1, h2, h3, h4, h5, h6, h7⟩ := h
  have ok := h6 0 (by decide) h4.1.1
  have rq := REq_AG ok.1 (OKR_11 ok).2 g
  have s0 : hd0 B S 0 = B := if_pos (by decide)
  have s1 : ∀ e, 0 < e → hd0 B S e = S e := fun e he => if_neg (by omega)
  refine ⟨by rw [s0]; exact CI_EQ h1 rq, by rw [s0]; exact CPr_EQ h2 rq, h3, h4, h5, fun e e0 e1 => ?_, fun e e0 e1 => ?_⟩
  · by_cases q : e = 0
    · rw [q, s0]
      exact OKR_AG ok g
    · rw [s1 e (by omega)]
      exact h6 e e0 e1
  · rw [s1 (e + 1) (by omega)]
    have ok1 := h6 (e + 1) (by omega) (by omega)
    have d := h7 e e0 e1
    by_cases q : e = 0
    · rw [q, s0]
      rw [q] at d ok1
      exact DD_AG ⟨ok.1.1.2, ok.1.2.2.1.2⟩ ok1.1 (OKR_11 ok1).2 g d
    · rw [s1 e (by omega)]
      exact d
/-- what leaves all deeds as they are -/
def GFL (H H' : PH) : Prop := (H' 0 7 = H 0 7 ∧ H' 0 8 = H 0 8) ∧ H' 47 = H 47 ∧ (H' 1 5 = H 1 5 ∧ H' 1 6 = H 1 6) ∧ ∀ l, 0 ≤ l → l < 20 → LGc H H' l
theorem LDA_fr {H H' : PH} (h47 : H' 47 = H 47) (h1 : H' 1 5 = H 1 5 ∧ H' 1 6 = H 1 6) (h : LDA H) (g : ∀ l, 0 ≤ l → l < 20 → H' (469 + 6 * l) 4 = H (469 + 6 * l) 4 ∧ H' (469 + 6 * l) 5 = H (469 + 6 * l) 5) : LDA H' := by
  obtain ⟨a, b, c, d, e, f, i⟩ := h
  refine ⟨by unfold LDi; rw [h47]; exact a, fun l l0 l1 => by rw [(g l l0 l1).1, (g l l0 l1).2]; exact b l l0 l1, by rw [h1.1, h1.2]; exact c, fun l l0 l1 => by rw [(g l l0 l1).1, h1.1, h1.2]; exact d l l0 l1, fun l m l0 l1 m0 m1 w => ?_, fun l k l0 l1 k0 k1 => by rw [(g l l0 l1).2, h47]; exact f l k l0 l1 k0 k1, fun l m l0 l1 m0 m1 w => ?_⟩
  · rw [(g l l0 l1).1, (g m m0 m1).1] at w
    exact e l m l0 l1 m0 m1 w
  · rw [(g l l0 l1).2, (g m m0 m1).2] at w
    exact i l m l0 l1 m0 m1 w
theorem RC_fr {H H' : PH} {S : Int → Int → Int} {n : Int} (h : RC H S n) (ci : CI H' (S 0)) (cp : CPr H' (S 0)) (g : GFL H H') : RC H' S n := by
  obtain ⟨h1, h2, h3, h4, h5, h6, h7⟩ := h
  refine ⟨ci, cp, LDA_fr g.2.1 g.2.2.1 h3 (fun l l0 l1 => by rw [(g.2.2.2 l l0 l1).1]; exact ⟨rfl, rfl⟩), ⟨h4.1, by rw [g.1.1]; exact h4.2⟩, by rw [g.1.2]; exact h5, h6, fun e e0 e1 => ?_⟩
  rw [g.1.2]
  have r := rpl_in h5 (show 0 ≤ e ∧ e < 20 by omega)
  exact DD_fr (g.2.2.2 _ r.1 r.2) (h7 e e0 e1)
/-- one deed more -/
theorem RC_note {H H' : PH} {S : Int → Int → Int} {n : Int} {B : Int → Int} (h : RC H S n) (ci : CI H' B) (cp : CPr H' B) (ok : OKR B) (ld : LDA H') (h7' : H' 0 7 = min 20 (n + 1)) (h8' : H' 0 8 = dnx (H 0 8)) (g : ∀ l, 0 ≤ l → l < 20 → ¬ l = dnx (H 0 8) → LGc H H' l) (dd : DD H' (dnx (H 0 8)) B (S 0)) : RC H' (cns B S) (min 20 (n + 1)) := by
  obtain ⟨h1, h2, h3, h4, h5, h6, h7⟩ := h
  have s0 : cns B S 0 = B := if_pos (by decide)
  have s1 : ∀ e, 0 < e → cns B S e = S (e - 1) := fun e he => if_neg (by omega)
  have l1 := dnx_in h5
  refine ⟨by rw [s0]; exact ci, by rw [s0]; exact cp, ld, ⟨by omega, h7'⟩, by rw [h8']; omega, fun e e0 e1 => ?_, fun e e0 e1 => ?_⟩
  · by_cases q : e = 0
    · rw [q, s0]
      exact ok
    · rw [s1 e (by omega)]
      exact h6 (e - 1) (by omega) (by omega)
  · rw [h8', s1 (e + 1) (by omega), show e + 1 - 1 = e by omega]
    by_cases q : e = 0
    · rw [q, s0, rpl_0 (by omega)]
      exact dd
    · rw [s1 e (by omega)]
      have r := rpl_dnx h5 (e := e - 1) (by omega)
      rw [show e - 1 + 1 = e by omega] at r
      rw [r]
      have ri := rpl_in h5 (e := e - 1) (by omega)
      have d := h7 (e - 1) (by omega) (by omega)
      rw [show e - 1 + 1 = e by omega] at d
      exact DD_fr (g _ ri.1 ri.2 (rpl_ne h5 (by omega))) d
