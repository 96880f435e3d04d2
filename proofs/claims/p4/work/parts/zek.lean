/-! ===== settled: doubtful lines, what it costs to read them ===== -/
def dbS (A : Int → Int) : Nat → Int × (Int → Int)
  | 0 => (0, fun _ => 0)
  | k + 1 => if rdL A k = -2 then ((dbS A k).1 + 1, xup (dbS A k).2 (dbS A k).1 k) else dbS A k
theorem dbS_S (A : Int → Int) (k : Nat) : dbS A (k + 1) = if rdL A k = -2 then ((dbS A k).1 + 1, xup (dbS A k).2 (dbS A k).1 k) else dbS A k := rfl
theorem dbS_in (A : Int → Int) : ∀ k : Nat, (0 ≤ (dbS A k).1 ∧ (dbS A k).1 ≤ k) ∧ ∀ i, 0 ≤ i → i < (dbS A k).1 → (0 ≤ (dbS A k).2 i ∧ (dbS A k).2 i < k) ∧ rdL A ((dbS A k).2 i) = -2
  | 0 => ⟨⟨Int.le_refl _, Int.le_refl _⟩, fun i i0 i1 => by
      have i1 : i < 0 := i1
      omega⟩
  | k + 1 => by
    obtain ⟨a, b⟩ := dbS_in A k
    rw [dbS_S]
    by_cases c : rdL A k = -2
    · rw [if_pos c]
      refine ⟨⟨(by omega : 0 ≤ (dbS A k).1 + 1), (by omega : (dbS A k).1 + 1 ≤ ((k + 1 : Nat) : Int))⟩, fun i i0 i1 => ?_⟩
      have i1 : i < (dbS A k).1 + 1 := i1
      show (0 ≤ xup (dbS A k).2 (dbS A k).1 k i ∧ xup (dbS A k).2 (dbS A k).1 k i < ((k + 1 : Nat) : Int)) ∧ rdL A (xup (dbS A k).2 (dbS A k).1 k i) = -2
      by_cases e : i = (dbS A k).1
      · rw [e, xup_a]
        exact ⟨by omega, c⟩
      · rw [xup_n e]
        have := b i i0 (by omega)
        exact ⟨by omega, this.2⟩
    · rw [if_neg c]
      exact ⟨by omega, fun i i0 i1 => by
        have := b i i0 i1
        exact ⟨by omega, this.2⟩⟩
theorem dbS_many (A : Int → Int) : ∀ k : Nat, (dbS A k).1 = fdS (fun k => if min 0 (rdL A k) = -2 then 1 else 0) k 0 0
  | 0 => rfl
  | k + 1 => by
    have ih := dbS_many A k
    rw [fdS_end, ← ih, show (0 : Int) + (k : Int) = (k : Int) by omega, dbS_S]
    by_cases c : rdL A k = -2
    · rw [if_pos c, if_pos (by omega)]
    · rw [if_neg c, if_neg (by omega)]
      omega
def dbZ (A : Int → Int) : Int × (Int → Int) := dbS A (A 2).toNat
theorem dbZ_many (A : Int → Int) : (dbZ A).1 = cnQ A (-2) := dbS_many A (A 2).toNat
theorem dbZ_in {A : Int → Int} (hB : MB A) : (0 ≤ (dbZ A).1 ∧ (dbZ A).1 ≤ 60) ∧ ∀ i, 0 ≤ i → i < (dbZ A).1 → (0 ≤ (dbZ A).2 i ∧ (dbZ A).2 i < A 2) ∧ rdL A ((dbZ A).2 i) = -2 := by
  obtain ⟨a, b⟩ := dbS_in A (A 2).toNat
  have a2 := hB.2.2.1
  have a : 0 ≤ (dbZ A).1 ∧ (dbZ A).1 ≤ ((A 2).toNat : Int) := a
  refine ⟨by omega, fun i i0 i1 => ?_⟩
  have b : (0 ≤ (dbZ A).2 i ∧ (dbZ A).2 i < ((A 2).toNat : Int)) ∧ rdL A ((dbZ A).2 i) = -2 := b i i0 i1
  exact ⟨by omega, b.2⟩
/-! a bill that no other one is nearer than -/
def nbF (A : Int → Int) (k b : Int) : Nat → Int → Bool
  | 0, _ => true
  | n + 1, o => if lapA A k o < lapA A k b then false else nbF A k b n (o + 1)
theorem nbF_iff (A : Int → Int) (k b : Int) : ∀ (n : Nat) (o : Int), nbF A k b n o = true ↔ ∀ x, o ≤ x → x < o + n → lapA A k b ≤ lapA A k x
  | 0, o => ⟨fun _ x x0 x1 => by omega, fun _ => rfl⟩
  | n + 1, o => by
    unfold nbF
    by_cases c : lapA A k o < lapA A k b
    · rw [if_pos c]
      exact ⟨fun w => absurd w Bool.false_ne_true, fun w => by
        have := w o (by omega) (by omega)
        omega⟩
    · rw [if_neg c, nbF_iff A k b n (o + 1)]
      exact ⟨fun w x x0 x1 => by
        by_cases e : x = o
        · rw [e]
          omega
        · exact w x (by omega) (by omega), fun w x x0 x1 => w x (by omega) (by omega)⟩
def nrB (A : Int → Int) (k b : Int) : Bool := nbF A k b (A 0).toNat 0
theorem nrB_iff {A : Int → Int} {k b : Int} (h : 0 ≤ A 0) : nrB A k b = true ↔ ∀ x, 0 ≤ x → x < A 0 → lapA A k b ≤ lapA A k x := by
  unfold nrB
  rw [nbF_iff]
  exact ⟨fun w x x0 x1 => w x x0 (by omega), fun w x x0 x1 => w x x0 (by omega)⟩
/-- the least of a row is reached, and is the least -/
theorem nrF_le {f : Int → Int} : ∀ (n : Nat) (b : Int) (s : nS), 0 < s.1 → (nrF f n b s).2.2 ≤ s.2.2 ∧ 0 < (nrF f n b s).1
  | 0, _, _, h => ⟨Int.le_refl _, h⟩
  | n + 1, b, s, h => by
    unfold nrF
    have p : 0 < (nrS f b s).1 ∧ (nrS f b s).2.2 ≤ s.2.2 := by
      unfold nrS
      by_cases c1 : 0 < s.1 ∧ s.2.2 < f b
      · simp only [if_pos c1]
        exact ⟨h, Int.le_refl _⟩
      · simp only [if_neg c1]
        by_cases c2 : 0 < s.1 ∧ f b = s.2.2
        · simp only [if_pos c2]
          exact ⟨by omega, by omega⟩
        · simp only [if_neg c2]
          exact ⟨by decide, by omega⟩
    obtain ⟨q1, q2⟩ := nrF_le n (b + 1) (nrS f b s) p.1
    exact ⟨by omega, q2⟩
theorem nrF_lo {f : Int → Int} : ∀ (n : Nat) (b : Int) (s : nS), 0 ≤ s.1 → ∀ x, b ≤ x → x < b + n → (nrF f n b s).2.2 ≤ f x
  | 0, _, _, _, x, x0, x1 => by omega
  | n + 1, b, s, h, x, x0, x1 => by
    unfold nrF
    have p : 0 < (nrS f b s).1 ∧ (nrS f b s).2.2 ≤ f b := by
      unfold nrS
      by_cases c1 : 0 < s.1 ∧ s.2.2 < f b
      · simp only [if_pos c1]
        exact ⟨c1.1, by omega⟩
      · simp only [if_neg c1]
        by_cases c2 : 0 < s.1 ∧ f b = s.2.2
        · simp only [if_pos c2]
          exact ⟨by omega, Int.le_refl _⟩
        · simp only [if_neg c2]
          exact ⟨by decide, Int.le_refl _⟩
    by_cases e : x = b
    · have := (nrF_le (f := f) n (b + 1) (nrS f b s) p.1).1
      rw [e]
      omega
    · exact nrF_lo n (b + 1) (nrS f b s) (by omega) x (by omega) (by omega)
theorem nrF_at {f : Int → Int} : ∀ (n : Nat) (b : Int) (s : nS), 0 ≤ s.1 → (0 < s.1 → 0 ≤ s.2.1 ∧ s.2.1 < b ∧ f s.2.1 = s.2.2) → 0 ≤ b → 0 < (nrF f n b s).1 → 0 ≤ (nrF f n b s).2.1 ∧ (nrF f n b s).2.1 < b + n ∧ f (nrF f n b s).2.1 = (nrF f n b s).2.2
  | 0, b, s, _, h, _, p => by
    have := h p
    exact ⟨this.1, by
      show s.2.1 < b + ((0 : Nat) : Int)
      omega, this.2.2⟩
  | n + 1, b, s, h0, h, b0, p => by
    unfold nrF at p ⊢
    have q : 0 ≤ (nrS f b s).1 ∧ (0 < (nrS f b s).1 → 0 ≤ (nrS f b s).2.1 ∧ (nrS f b s).2.1 < b + 1 ∧ f (nrS f b s).2.1 = (nrS f b s).2.2) := by
      unfold nrS
      by_cases c1 : 0 < s.1 ∧ s.2.2 < f b
      · simp only [if_pos c1]
        have := h c1.1
        exact ⟨h0, fun _ => ⟨this.1, by omega, this.2.2⟩⟩
      · simp only [if_neg c1]
        by_cases c2 : 0 < s.1 ∧ f b = s.2.2
        · simp only [if_pos c2]
          have := h c2.1
          exact ⟨by omega, fun _ => ⟨this.1, by omega, by rw [this.2.2]; exact c2.2.symm⟩⟩
        · simp only [if_neg c2]
          exact ⟨by decide, fun _ => ⟨b0, by omega, trivial⟩⟩
    obtain ⟨r1, r2, r3⟩ := nrF_at n (b + 1) (nrS f b s) q.1 q.2 (by omega) p
    exact ⟨r1, by omega, r3⟩
/-- how the model finds it out -/
theorem nrB_nr {A : Int → Int} {k b : Int} (h : 0 < A 0) (hb : 0 ≤ b ∧ b < A 0) : nrB A k b = true ↔ lapA A k b = (nrZ A (404 + 12 * k + 3) (404 + 12 * k + 4)).2.2 := by
  rw [nrB_iff (by omega)]
  have e : nrZ A (404 + 12 * k + 3) (404 + 12 * k + 4) = nrF (lapA A k) (A 0).toNat 0 (0, 0, 0) := rfl
  rw [e]
  have lo := nrF_lo (f := lapA A k) (A 0).toNat 0 (0, 0, 0) (Int.le_refl _)
  have po : 0 < (nrF (lapA A k) (A 0).toNat 0 (0, 0, 0)).1 := by
    rw [show (A 0).toNat = ((A 0).toNat - 1) + 1 by omega]
    show 0 < (nrF (lapA A k) ((A 0).toNat - 1) (0 + 1) (nrS (lapA A k) 0 (0, 0, 0))).1
    refine (nrF_le _ _ _ ?_).2
    unfold nrS
    simp
  obtain ⟨a0, a1, a2⟩ := nrF_at (f := lapA A k) (A 0).toNat 0 (0, 0, 0) (Int.le_refl _) (fun w => absurd w (by decide)) (by decide) po
  constructor
  · intro w
    have h1 := w _ a0 (by omega)
    have h2 := lo b hb.1 (by omega)
    omega
  · intro w x x0 x1
    have := lo x x0 (by omega)
    omega
theorem nr_some {A : Int → Int} {k : Int} (h : 0 < A 0) : ∃ b, (0 ≤ b ∧ b < A 0) ∧ nrB A k b = true := by
  have po : 0 < (nrF (lapA A k) (A 0).toNat 0 (0, 0, 0)).1 := by
    rw [show (A 0).toNat = ((A 0).toNat - 1) + 1 by omega]
    show 0 < (nrF (lapA A k) ((A 0).toNat - 1) (0 + 1) (nrS (lapA A k) 0 (0, 0, 0))).1
    refine (nrF_le _ _ _ ?_).2
    unfold nrS
    simp
  obtain ⟨a0, a1, a2⟩ := nrF_at (f := lapA A k) (A 0).toNat 0 (0, 0, 0) (Int.le_refl _) (fun w => absurd w (by decide)) (by decide) po
  have hb : 0 ≤ (nrF (lapA A k) (A 0).toNat 0 (0, 0, 0)).2.1 ∧ (nrF (lapA A k) (A 0).toNat 0 (0, 0, 0)).2.1 < A 0 := ⟨a0, by omega⟩
  exact ⟨_, hb, (nrB_nr h hb).mpr a2⟩
/-- a doubtful line: there are bills -/
theorem db_bills {A : Int → Int} {k : Int} (hB : MB A) (h : rdL A k = -2) : 0 < A 0 := by
  have a0 := hB.1
  by_cases c : 0 < A 0
  · exact c
  · have e : A 0 = 0 := by omega
    have e2 : nrZ A (404 + 12 * k + 3) (404 + 12 * k + 4) = (0, 0, 0) := by
      unfold nrZ
      rw [e]
      rfl
    unfold rdL rdA at h
    rw [e2] at h
    rw [if_pos (Or.inl rfl)] at h
    omega
/-! what a bill's tally is off by, with bales more -/
def coS (A : Int → Int) (b x y : Int) : Int := if 0 ≤ dueA A b - agA A ((tlZ A).2.2.1 b + x) ((tlZ A).2.2.2 b + y) (A (92 + 26 * b + 9)) then dueA A b - agA A ((tlZ A).2.2.1 b + x) ((tlZ A).2.2.2 b + y) (A (92 + 26 * b + 9)) else -(dueA A b - agA A ((tlZ A).2.2.1 b + x) ((tlZ A).2.2.2 b + y) (A (92 + 26 * b + 9)))
theorem tlS_bd {A : Int → Int} {k : Int} (hX : OKX A) (hk : 0 ≤ k ∧ k < A 2) (h60 : A 2 ≤ 60) {t : tS} (h : ∀ s, (0 ≤ t.2.2.1 s ∧ t.2.2.1 s ≤ 999 * k) ∧ (0 ≤ t.2.2.2 s ∧ t.2.2.2 s ≤ 999 * k)) : ∀ s, (0 ≤ (tlS A k t).2.2.1 s ∧ (tlS A k t).2.2.1 s ≤ 999 * (k + 1)) ∧ (0 ≤ (tlS A k t).2.2.2 s ∧ (tlS A k t).2.2.2 s ≤ 999 * (k + 1)) := by
  intro s
  have o := (hX.2 k hk.1 hk.2).2.2
  have hs := h s
  have hi := h (tlI A k t)
  have z1 : zw (t.2.2.1 (tlI A k t) + A (404 + 12 * k + 2)) = t.2.2.1 (tlI A k t) + A (404 + 12 * k + 2) := zw_lit (by omega) (by omega)
  have z2 : zw (t.2.2.2 (tlI A k t) + A (404 + 12 * k + 2)) = t.2.2.2 (tlI A k t) + A (404 + 12 * k + 2) := zw_lit (by omega) (by omega)
  have e1 : (tlS A k t).2.2.1 = if A (404 + 12 * k) = 0 then xup t.2.2.1 (tlI A k t) (zw (t.2.2.1 (tlI A k t) + A (404 + 12 * k + 2))) else t.2.2.1 := rfl
  have e2 : (tlS A k t).2.2.2 = if A (404 + 12 * k) = 0 then t.2.2.2 else xup t.2.2.2 (tlI A k t) (zw (t.2.2.2 (tlI A k t) + A (404 + 12 * k + 2))) := rfl
  rw [e1, e2, z1, z2]
  by_cases c : A (404 + 12 * k) = 0
  · rw [if_pos c, if_pos c]
    by_cases e : s = tlI A k t
    · rw [e, xup_a]
      omega
    · rw [xup_n e]
      omega
  · rw [if_neg c, if_neg c]
    by_cases e : s = tlI A k t
    · rw [e, xup_a]
      omega
    · rw [xup_n e]
      omega
theorem tlF_bd {A : Int → Int} (hX : OKX A) (h60 : A 2 ≤ 60) : ∀ (n : Nat) (k : Int) (t : tS), 0 ≤ k → k + n ≤ A 2 → (∀ s, (0 ≤ t.2.2.1 s ∧ t.2.2.1 s ≤ 999 * k) ∧ (0 ≤ t.2.2.2 s ∧ t.2.2.2 s ≤ 999 * k)) → ∀ s, (0 ≤ (tlF A n k t).2.2.1 s ∧ (tlF A n k t).2.2.1 s ≤ 999 * (k + n)) ∧ (0 ≤ (tlF A n k t).2.2.2 s ∧ (tlF A n k t).2.2.2 s ≤ 999 * (k + n))
  | 0, k, t, _, _, h => fun s => by
    have := h s
    have e : tlF A 0 k t = t := rfl
    rw [e]
    omega
  | n + 1, k, t, k0, k1, h => fun s => by
    unfold tlF
    have := tlF_bd hX h60 n (k + 1) (tlS A k t) (by omega) (by omega) (tlS_bd hX ⟨k0, by omega⟩ h60 h) s
    omega
theorem tlZ_bd {A : Int → Int} (hB : MB A) (hX : OKX A) (s : Int) : (0 ≤ (tlZ A).2.2.1 s ∧ (tlZ A).2.2.1 s ≤ 59940) ∧ (0 ≤ (tlZ A).2.2.2 s ∧ (tlZ A).2.2.2 s ≤ 59940) := by
  have a2 := hB.2.2.1
  have := tlF_bd hX a2.2 (A 2).toNat 0 (0, fun _ => 0, fun _ => 0, fun _ => 0) (by decide) (by omega) (fun s => ⟨⟨Int.le_refl _, Int.le_refl _⟩, Int.le_refl _, Int.le_refl _⟩) s
  unfold tlZ
  omega
theorem agA_in (A : Int → Int) {x y c : Int} (hx : 0 ≤ x ∧ x ≤ 1000000) (hy : 0 ≤ y ∧ y ≤ 1000000) : 0 ≤ agA A x y c ∧ agA A x y c ≤ 1000000 := by
  unfold agA
  split
  · omega
  · unfold agV
    omega
set_option maxRecDepth 100000 in
theorem duF_in {kd am : Int → Int} (n : Nat) : ∀ (i v : Int), (∀ j, i ≤ j → j < i + n → 0 ≤ am j ∧ am j ≤ 999) → -6000 + 999 * (n : Int) ≤ v → v ≤ 999 → n ≤ 6 → duF kd am n i v ≤ 999 := by
  induction n with
  | zero =>
    intro i v _ _ h _
    exact h
  | succ n ih =>
    intro i v h v0 v1 n6
    show duF kd am n (i + 1) (if kd i = 0 then zw (v - am i) else v) ≤ 999
    have a := h i (by omega) (by omega)
    by_cases c : kd i = 0
    · rw [if_pos c, zw_lit (by omega) (by omega)]
      exact ih (i + 1) _ (fun j p q => h j (by omega) (by omega)) (by omega) (by omega) (by omega)
    · rw [if_neg c]
      exact ih (i + 1) _ (fun j p q => h j (by omega) (by omega)) (by omega) (by omega) (by omega)
theorem dueA_in {A : Int → Int} (hB : MB A) (hX : OKX A) {b : Int} (hb : 0 ≤ b ∧ b < A 0) : 0 ≤ dueA A b ∧ dueA A b ≤ 999 := by
  have a0 := hB.1
  obtain ⟨x1, x2, x3, x4⟩ := hX.1 b hb.1 hb.2
  have r6 := hB.2.2.2.2.1 b hb.1 (by omega)
  have := duF_in (kd := fun i => A (92 + 26 * b + 14 + 2 * i)) (am := fun i => A (92 + 26 * b + 14 + 2 * i + 1)) (A (92 + 26 * b + 13)).toNat 0 (A (92 + 26 * b + 9)) (fun j j0 j1 => (x4 j j0 (by omega)).2) (by omega) (by omega) (by omega)
  unfold dueA
  omega
theorem coS_in {A : Int → Int} (hB : MB A) (hX : OKX A) {b x y : Int} (hb : 0 ≤ b ∧ b < A 0) (hx : 0 ≤ x ∧ x ≤ 59940) (hy : 0 ≤ y ∧ y ≤ 59940) : 0 ≤ coS A b x y ∧ coS A b x y ≤ 1000000 := by
  have d := dueA_in hB hX hb
  have t := tlZ_bd hB hX b
  have a := agA_in A (x := (tlZ A).2.2.1 b + x) (y := (tlZ A).2.2.2 b + y) (c := A (92 + 26 * b + 9)) (by omega) (by omega)
  unfold coS
  split
  · omega
  · omega
/-! sums -/
theorem fdS_v (f : Int → Int) : ∀ (n : Nat) (a v w : Int), fdS f n a (v + w) = fdS f n a v + w
  | 0, _, _, _ => rfl
  | n + 1, a, v, w => by
    unfold fdS
    rw [show v + w + f a = v + f a + w by omega, fdS_v f n (a + 1)]
theorem fdS_one {f f' : Int → Int} {b0 : Int} : ∀ (n : Nat) (a v : Int), (∀ x, a ≤ x → x < a + n → ¬ x = b0 → f x = f' x) → a ≤ b0 → b0 < a + n → fdS f' n a v = fdS f n a v - f b0 + f' b0
  | 0, _, _, _, h0, h1 => by omega
  | n + 1, a, v, h, h0, h1 => by
    unfold fdS
    by_cases e : a = b0
    · have r : fdS f' n (a + 1) (v + f' a) = fdS f n (a + 1) (v + f' a) := (fdS_eq n (a + 1) _ (fun x p q => h x (by omega) (by omega) (by omega))).symm
      rw [r, show v + f' a = v + f a + (f' a - f a) by omega, fdS_v, ← e]
      omega
    · rw [h a (by omega) (by omega) e]
      exact fdS_one n (a + 1) _ (fun x p q => h x (by omega) (by omega)) (by omega) (by omega)
theorem fdS_bd {f : Int → Int} {m : Int} : ∀ (n : Nat) (a v : Int), (∀ x, a ≤ x → x < a + n → 0 ≤ f x ∧ f x ≤ m) → v ≤ fdS f n a v ∧ fdS f n a v ≤ v + n * m
  | 0, _, v, _ => ⟨Int.le_refl _, by show v ≤ v + ((0 : Nat) : Int) * m; omega⟩
  | n + 1, a, v, h => by
    unfold fdS
    obtain ⟨p, q⟩ := fdS_bd (f := f) (m := m) n (a + 1) (v + f a) (fun x x0 x1 => h x (by omega) (by omega))
    have c := h a (by omega) (by omega)
    have e : ((n + 1 : Nat) : Int) * m = n * m + m := by rw [show ((n + 1 : Nat) : Int) = n + 1 by omega, Int.add_mul, Int.one_mul]
    rw [e]
    omega
/-! bales that the doubtful ones bring, read in some way; what all is off by -/
def exS (A D σ : Int → Int) (b sd : Int) : Nat → Int
  | 0 => 0
  | j + 1 => exS A D σ b sd j + (if σ j = b ∧ A (404 + 12 * D j) = sd then A (404 + 12 * D j + 2) else 0)
def toS (A D σ : Int → Int) (j : Nat) : Int := fdS (fun b => coS A b (exS A D σ b 0 j) (exS A D σ b 1 j)) (A 0).toNat 0 0
theorem exS_eq {A D σ τ : Int → Int} {b sd : Int} : ∀ j : Nat, (∀ i : Int, 0 ≤ i → i < (j : Int) → σ i = τ i) → exS A D σ b sd j = exS A D τ b sd j
  | 0, _ => rfl
  | j + 1, h => by
    unfold exS
    rw [exS_eq j (fun i i0 i1 => h i i0 (by omega)), h j (by omega) (by omega)]
theorem toS_eq {A D σ τ : Int → Int} {j : Nat} (h : ∀ i : Int, 0 ≤ i → i < (j : Int) → σ i = τ i) : toS A D σ j = toS A D τ j := by
  unfold toS
  refine fdS_eq _ _ _ (fun b _ _ => ?_)
  rw [exS_eq j h, exS_eq j h]
theorem exS_bd {A D σ : Int → Int} (hX : OKX A) {b sd : Int} : ∀ j : Nat, (∀ i : Int, 0 ≤ i → i < (j : Int) → 0 ≤ D i ∧ D i < A 2) → 0 ≤ exS A D σ b sd j ∧ exS A D σ b sd j ≤ 999 * j
  | 0, _ => ⟨Int.le_refl _, Int.le_refl _⟩
  | j + 1, h => by
    have ih := exS_bd hX (σ := σ) (b := b) (sd := sd) j (fun i i0 i1 => h i i0 (by omega))
    have d := h j (by omega) (by omega)
    have o := (hX.2 (D j) d.1 d.2).2.2
    unfold exS
    split
    · omega
    · omega
theorem toS_bd {A D σ : Int → Int} (hB : MB A) (hX : OKX A) {j : Nat} (hj : j ≤ 60) (h : ∀ i : Int, 0 ≤ i → i < (j : Int) → 0 ≤ D i ∧ D i < A 2) : 0 ≤ toS A D σ j ∧ toS A D σ j ≤ 12000000 := by
  have a0 := hB.1
  unfold toS
  have := fdS_bd (f := fun b => coS A b (exS A D σ b 0 j) (exS A D σ b 1 j)) (m := 1000000) (A 0).toNat 0 0 (fun x x0 x1 => by
    have e0 := exS_bd hX (σ := σ) (b := x) (sd := 0) j h
    have e1 := exS_bd hX (σ := σ) (b := x) (sd := 1) j h
    exact coS_in hB hX ⟨x0, by omega⟩ (by omega) (by omega))
  omega
/-- one more is read -/
theorem toS_up {A D σ : Int → Int} {j : Nat} {b : Int} (hb : 0 ≤ b ∧ b < A 0) : toS A D (xup σ j b) (j + 1) = toS A D σ j - coS A b (exS A D σ b 0 j) (exS A D σ b 1 j) + coS A b (exS A D (xup σ j b) b 0 (j + 1)) (exS A D (xup σ j b) b 1 (j + 1)) := by
  unfold toS
  refine fdS_one (f := fun b => coS A b (exS A D σ b 0 j) (exS A D σ b 1 j)) (f' := fun x => coS A x (exS A D (xup σ j b) x 0 (j + 1)) (exS A D (xup σ j b) x 1 (j + 1))) _ _ _ (fun x x0 x1 hx => ?_) hb.1 (by omega)
  have e : ∀ sd, exS A D (xup σ j b) x sd (j + 1) = exS A D σ x sd j := fun sd => by
    show exS A D (xup σ j b) x sd j + (if xup σ j b j = x ∧ A (404 + 12 * D j) = sd then A (404 + 12 * D j + 2) else 0) = _
    rw [if_neg (fun w => hx (by rw [← w.1, xup_a])), exS_eq (σ := xup σ j b) (τ := σ) j (fun i i0 i1 => xup_n (by omega))]
    omega
  rw [e, e]
/-! the ways to read them all, in turn -/
def rsp (A D : Int → Int) (d : Int) (σ : Int → Int) : Prop := ∀ i, 0 ≤ i → i < d → (0 ≤ σ i ∧ σ i < A 0) ∧ nrB A (D i) (σ i) = true
def lx (d : Int) (σ τ : Int → Int) : Prop := (∀ i, 0 ≤ i → i < d → σ i = τ i) ∨ ∃ j, 0 ≤ j ∧ j < d ∧ (∀ i, 0 ≤ i → i < j → σ i = τ i) ∧ σ j < τ j
/-- the first of those that cost least -/
def fst1 (A D : Int → Int) (d : Nat) (σ : Int → Int) : Prop := rsp A D d σ ∧ ∀ τ, rsp A D d τ → toS A D σ d < toS A D τ d ∨ (toS A D σ d = toS A D τ d ∧ lx d σ τ)
theorem lx_anti {d : Int} {σ τ : Int → Int} (h : lx d σ τ) (g : lx d τ σ) : ∀ i, 0 ≤ i → i < d → σ i = τ i := by
  rcases h with h | ⟨j, j0, j1, j2, j3⟩
  · exact h
  · rcases g with g | ⟨l, l0, l1, l2, l3⟩
    · exact fun i i0 i1 => (g i i0 i1).symm
    · exfalso
      rcases Int.lt_trichotomy j l with q | q | q
      · have := l2 j j0 q
        omega
      · rw [q] at j3
        omega
      · have := j2 l l0 q
        omega
theorem fst1_uniq {A D : Int → Int} {d : Nat} {σ τ : Int → Int} (h : fst1 A D d σ) (g : fst1 A D d τ) : toS A D σ d = toS A D τ d ∧ ∀ i, 0 ≤ i → i < (d : Int) → σ i = τ i := by
  rcases h.2 τ g.1 with h1 | ⟨h1, h2⟩
  · rcases g.2 σ h.1 with g1 | ⟨g1, _⟩ <;> omega
  · rcases g.2 σ h.1 with g1 | ⟨g1, g2⟩
    · omega
    · exact ⟨h1, lx_anti h2 g2⟩
theorem min_ex {P : Int → Prop} (lo : ∀ x, P x → 0 ≤ x) : ∀ (n : Nat) (x : Int), x.toNat ≤ n → P x → ∃ y, P y ∧ ∀ z, P z → y ≤ z
  | 0, x, hx, px => ⟨x, px, fun z pz => by
      have := lo z pz
      have := lo x px
      omega⟩
  | n + 1, x, hx, px => by
    by_cases c : ∃ z, P z ∧ z < x
    · obtain ⟨z, pz, hz⟩ := c
      have := lo z pz
      exact min_ex lo n z (by omega) pz
    · exact ⟨x, px, fun z pz => by
        by_cases w : x ≤ z
        · exact w
        · exact absurd ⟨z, pz, by omega⟩ c⟩
theorem lx_min {Q : (Int → Int) → Prop} (d : Nat) (lo : ∀ τ, Q τ → ∀ i, 0 ≤ i → i < (d : Int) → 0 ≤ τ i) {τ0 : Int → Int} (h0 : Q τ0) : ∀ m : Nat, m ≤ d → ∃ τ, Q τ ∧ ∀ τ', Q τ' → lx m τ τ'
  | 0, _ => ⟨τ0, h0, fun _ _ => Or.inl (fun i i0 i1 => by omega)⟩
  | m + 1, hm => by
    obtain ⟨τ, q, h⟩ := lx_min d lo h0 m (by omega)
    obtain ⟨y, ⟨σ, s1, s2, s3⟩, hy⟩ := min_ex (P := fun y => ∃ σ, Q σ ∧ (∀ i, 0 ≤ i → i < (m : Int) → σ i = τ i) ∧ σ m = y) (fun y ⟨σ, s1, _, s3⟩ => by
      have := lo σ s1 m (by omega) (by omega)
      omega) (τ m).toNat (τ m) (Nat.le_refl _) ⟨τ, q, fun _ _ _ => rfl, rfl⟩
    refine ⟨σ, s1, fun τ' q' => ?_⟩
    rcases h τ' q' with w | ⟨j, j0, j1, j2, j3⟩
    · have e : ∀ i, 0 ≤ i → i < (m : Int) → τ' i = τ i := fun i i0 i1 => (w i i0 i1).symm
      have l := hy (τ' m) ⟨τ', q', e, rfl⟩
      by_cases c : σ m = τ' m
      · exact Or.inl (fun i i0 i1 => by
          by_cases x : i = m
          · rw [x]
            exact c
          · rw [s2 i i0 (by omega)]
            exact w i i0 (by omega))
      · exact Or.inr ⟨m, by omega, by omega, fun i i0 i1 => (s2 i i0 i1).trans (w i i0 i1), by omega⟩
    · exact Or.inr ⟨j, j0, by omega, fun i i0 i1 => (s2 i i0 (by omega)).trans (j2 i i0 i1), by rw [s2 j j0 (by omega)]; exact j3⟩
theorem fst1_ex {A D : Int → Int} {d : Nat} (hB : MB A) (hX : OKX A) (hd : d ≤ 60) (hD : ∀ i, 0 ≤ i → i < (d : Int) → 0 ≤ D i ∧ D i < A 2) {τ0 : Int → Int} (h0 : rsp A D d τ0) : ∃ σ, fst1 A D d σ := by
  obtain ⟨y, ⟨τ1, p1, p2⟩, hy⟩ := min_ex (P := fun y => ∃ τ, rsp A D d τ ∧ toS A D τ d = y) (fun y ⟨τ, _, p⟩ => by
    have := toS_bd (σ := τ) hB hX hd hD
    omega) (toS A D τ0 d).toNat (toS A D τ0 d) (Nat.le_refl _) ⟨τ0, h0, rfl⟩
  obtain ⟨σ, ⟨q1, q2⟩, q3⟩ := lx_min (Q := fun τ => rsp A D d τ ∧ toS A D τ d = y) d (fun τ q i i0 i1 => (q.1 i i0 i1).1.1) ⟨p1, p2⟩ d (Nat.le_refl _)
  refine ⟨σ, q1, fun τ t => ?_⟩
  have l := hy (toS A D τ d) ⟨τ, t, rfl⟩
  by_cases c : toS A D τ d = y
  · exact Or.inr ⟨by omega, q3 τ ⟨t, c⟩⟩
  · exact Or.inl (by omega)
theorem rsp_ex {A D : Int → Int} {d : Int} (h : 0 < A 0) : ∃ τ, rsp A D d τ := ⟨fun i => (nr_some (A := A) (k := D i) h).choose, fun i _ _ => (nr_some (A := A) (k := D i) h).choose_spec⟩
