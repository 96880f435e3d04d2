/-! ===== settled: sets of doubtful lines, as the class goes through them ===== -/
def mkN (P : Nat → Bool) : Nat → Nat
  | 0 => 0
  | d + 1 => mkN P d ||| (if P d = true then 2 ^ d else 0)
theorem mkN_bit (P : Nat → Bool) : ∀ d i : Nat, (mkN P d).testBit i = (decide (i < d) && P i)
  | 0, i => by
    unfold mkN
    rw [Nat.zero_testBit]
    simp
  | d + 1, i => by
    unfold mkN
    rw [Nat.testBit_or, mkN_bit P d i]
    have h : decide (i < d + 1) = (decide (i < d) || decide (d = i)) := by
      rw [Bool.eq_iff_iff]
      simp only [Bool.or_eq_true, decide_eq_true_eq]
      omega
    rw [h]
    by_cases e : d = i
    · subst e
      by_cases p : P d = true
      · rw [if_pos p, Nat.testBit_two_pow]
        simp [p]
      · rw [if_neg p, Nat.zero_testBit]
        have p' : P d = false := by
          cases q : P d with
          | false => rfl
          | true => exact absurd q p
        simp [p']
    · have e' : decide (d = i) = false := decide_eq_false e
      by_cases p : P d = true
      · rw [if_pos p, Nat.testBit_two_pow, e']
        simp
      · rw [if_neg p, Nat.zero_testBit, e']
        simp
theorem mkN_lt (P : Nat → Bool) (d : Nat) : mkN P d < 2 ^ d := Nat.lt_pow_two_of_testBit _ (fun i hi => by
  rw [mkN_bit]
  have : decide (i < d) = false := decide_eq_false (by omega)
  rw [this]
  rfl)
theorem bit_lt {s d i : Nat} (h : s < 2 ^ d) (b : s.testBit i = true) : i < d := by
  by_cases c : i < d
  · exact c
  · have : s.testBit i = false := Nat.testBit_lt_two_pow (Nat.lt_of_lt_of_le h (Nat.pow_le_pow_right (by decide) (by omega)))
    rw [this] at b
    cases b
theorem no_bits {s : Nat} (h : ∀ i, s.testBit i = false) : s = 0 := Nat.eq_of_testBit_eq (fun i => by rw [h i, Nat.zero_testBit])
theorem sub_all : (List.range 32).all (fun s => (List.range 32).all (fun p => !(Nat.beq (p &&& s) p) || (List.range 5).all (fun i => (s - p).testBit i == (s.testBit i && !p.testBit i)))) = true := by decide +kernel
theorem sub_bit {s p : Nat} (hs : s < 32) (hp : p &&& s = p) (i : Nat) : (s - p).testBit i = (s.testBit i && !p.testBit i) := by
  have ple : p ≤ s := by
    have := Nat.and_le_right (n := p) (m := s)
    omega
  by_cases c : i < 5
  · have h := List.all_eq_true.mp (List.all_eq_true.mp sub_all s (List.mem_range.mpr hs)) p (List.mem_range.mpr (by omega))
    rw [hp] at h
    simp only [Nat.beq_refl, Bool.not_true, Bool.false_or] at h
    exact eq_of_beq (List.all_eq_true.mp h i (List.mem_range.mpr c))
  · have l5 : (32 : Nat) ≤ 2 ^ i := by
      have : 2 ^ 5 ≤ 2 ^ i := Nat.pow_le_pow_right (by decide) (by omega)
      omega
    rw [Nat.testBit_lt_two_pow (show s - p < 2 ^ i by omega), Nat.testBit_lt_two_pow (show s < 2 ^ i by omega)]
    rfl
theorem sub_b {p s i : Nat} (h : p &&& s = p) (b : p.testBit i = true) : s.testBit i = true := by
  have e : (p &&& s).testBit i = p.testBit i := by rw [h]
  rw [Nat.testBit_and, b] at e
  exact e
theorem sub_of {p s : Nat} (h : ∀ i, p.testBit i = true → s.testBit i = true) : p &&& s = p := Nat.eq_of_testBit_eq (fun i => by
  rw [Nat.testBit_and]
  cases q : p.testBit i with
  | false => rfl
  | true => rw [h i q]; rfl)
theorem p32 {d : Nat} (h : d ≤ 5) : 2 ^ d ≤ 32 := by
  have : 2 ^ d ≤ 2 ^ 5 := Nat.pow_le_pow_right (by decide) h
  omega
/-- the bales of a set on a side; what a bill is off by with a set -/
def bnS (A D : Int → Int) (sd : Int) (u : Nat) : Nat → Int
  | 0 => 0
  | j + 1 => bnS A D sd u j + (if u.testBit j = true ∧ A (404 + 12 * D j) = sd then A (404 + 12 * D j + 2) else 0)
def cuS (A D : Int → Int) (d : Nat) (b : Int) (u : Nat) : Int := coS A b (bnS A D 0 u d) (bnS A D 1 u d)
def msk (τ : Int → Int) (b : Int) (s d : Nat) : Nat := mkN (fun i => s.testBit i && decide (τ i = b)) d
def wmSx (A D : Int → Int) (d : Nat) (τ : Int → Int) (s b : Nat) : Int := fdS (fun x => cuS A D d x (msk τ x s d)) b 0 0
def lwF (row cost : Nat → Int) (s most : Nat) : Nat → Int → Int
  | 0, l => min l (row s + cost 0)
  | p + 1, l => lwF row cost s most p (if (p + 1) &&& most = p + 1 then min l (row (s - (p + 1)) + cost (p + 1)) else l)
def dpA (A D : Int → Int) (d : Nat) (al : Nat → Nat) : Nat → Nat → Int
  | 0, s => if s = 0 then 0 else 536870912
  | b + 1, s => lwF (dpA A D d al b) (cuS A D d b) s (s &&& al b) (s &&& al b) 536870912
theorem bnS_bd {A D : Int → Int} (hX : OKX A) {sd : Int} {u : Nat} : ∀ j : Nat, (∀ i, 0 ≤ i → i < (j : Int) → 0 ≤ D i ∧ D i < A 2) → 0 ≤ bnS A D sd u j ∧ bnS A D sd u j ≤ 999 * j
  | 0, _ => ⟨Int.le_refl _, Int.le_refl _⟩
  | j + 1, h => by
    have ih := bnS_bd hX (sd := sd) (u := u) j (fun i i0 i1 => h i i0 (by omega))
    have d := h j (by omega) (by omega)
    have o := (hX.2 (D j) d.1 d.2).2.2
    unfold bnS
    split
    · omega
    · omega
theorem cuS_in {A D : Int → Int} {d : Nat} (hB : MB A) (hX : OKX A) (hd : d ≤ 5) (hD : ∀ i, 0 ≤ i → i < (d : Int) → 0 ≤ D i ∧ D i < A 2) {b : Int} (hb : 0 ≤ b ∧ b < A 0) (u : Nat) : 0 ≤ cuS A D d b u ∧ cuS A D d b u ≤ 1000000 := by
  have e0 := bnS_bd hX (sd := 0) (u := u) d hD
  have e1 := bnS_bd hX (sd := 1) (u := u) d hD
  exact coS_in hB hX hb (by omega) (by omega)
theorem lw_le (row cost : Nat → Int) (s most : Nat) : ∀ (p : Nat) (l : Int), lwF row cost s most p l ≤ l
  | 0, l => by
    unfold lwF
    omega
  | p + 1, l => by
    unfold lwF
    by_cases c : (p + 1) &&& most = p + 1
    · rw [if_pos c]
      have := lw_le row cost s most p (min l (row (s - (p + 1)) + cost (p + 1)))
      omega
    · rw [if_neg c]
      exact lw_le row cost s most p l
theorem lw_p (row cost : Nat → Int) (s most : Nat) : ∀ (p : Nat) (l : Int) (q : Nat), q ≤ p → q &&& most = q → lwF row cost s most p l ≤ row (s - q) + cost q
  | 0, l, q, hq, hm => by
    have e : q = 0 := by omega
    subst e
    unfold lwF
    rw [Nat.sub_zero]
    omega
  | p + 1, l, q, hq, hm => by
    unfold lwF
    by_cases e : q = p + 1
    · subst e
      rw [if_pos hm]
      have := lw_le row cost s most p (min l (row (s - (p + 1)) + cost (p + 1)))
      omega
    · exact lw_p row cost s most p _ q (by omega) hm
theorem lw_ex (row cost : Nat → Int) (s most : Nat) : ∀ (p : Nat) (l : Int), lwF row cost s most p l = l ∨ ∃ q, q ≤ p ∧ q &&& most = q ∧ lwF row cost s most p l = row (s - q) + cost q
  | 0, l => by
    have e : lwF row cost s most 0 l = min l (row s + cost 0) := rfl
    rw [e]
    by_cases c : l ≤ row s + cost 0
    · exact Or.inl (by omega)
    · exact Or.inr ⟨0, Nat.le_refl _, Nat.zero_and _, by rw [Nat.sub_zero]; omega⟩
  | p + 1, l => by
    have e : lwF row cost s most (p + 1) l = lwF row cost s most p (if (p + 1) &&& most = p + 1 then min l (row (s - (p + 1)) + cost (p + 1)) else l) := rfl
    rw [e]
    by_cases c : (p + 1) &&& most = p + 1
    · rw [if_pos c]
      rcases lw_ex row cost s most p (min l (row (s - (p + 1)) + cost (p + 1))) with h | ⟨q, h1, h2, h3⟩
      · rw [h]
        by_cases w : l ≤ row (s - (p + 1)) + cost (p + 1)
        · exact Or.inl (by omega)
        · exact Or.inr ⟨p + 1, Nat.le_refl _, c, by omega⟩
      · exact Or.inr ⟨q, by omega, h2, h3⟩
    · rw [if_neg c]
      rcases lw_ex row cost s most p l with h | ⟨q, h1, h2, h3⟩
      · exact Or.inl h
      · exact Or.inr ⟨q, by omega, h2, h3⟩
theorem dp_top (A D : Int → Int) (d : Nat) (al : Nat → Nat) : ∀ b s : Nat, dpA A D d al b s ≤ 536870912
  | 0, s => by
    unfold dpA
    split
    · decide
    · exact Int.le_refl _
  | b + 1, s => by
    unfold dpA
    exact lw_le _ _ _ _ _ _
theorem msk_bit {τ : Int → Int} {b : Int} {s d i : Nat} : (msk τ b s d).testBit i = (decide (i < d) && (s.testBit i && decide (τ i = b))) := mkN_bit _ d i
theorem dp_le {A D : Int → Int} {d : Nat} (al : Nat → Nat) (hd : d ≤ 5) : ∀ b s : Nat, s < 2 ^ d → ∀ τ : Int → Int, (∀ i : Nat, s.testBit i = true → (0 ≤ τ i ∧ τ i < b) ∧ (al (τ i).toNat).testBit i = true) → dpA A D d al b s ≤ wmSx A D d τ s b
  | 0, s, hs, τ, h => by
    have e : s = 0 := no_bits (fun i => by
      cases q : s.testBit i with
      | false => rfl
      | true =>
        have := h i q
        omega)
    unfold dpA
    rw [if_pos e]
    exact Int.le_refl _
  | b + 1, s, hs, τ, h => by
    have s32 : s < 32 := Nat.lt_of_lt_of_le hs (p32 hd)
    have q1 : msk τ b s d &&& (s &&& al b) = msk τ b s d := sub_of (fun i hi => by
      rw [msk_bit] at hi
      simp only [Bool.and_eq_true, decide_eq_true_eq] at hi
      have := h i hi.2.1
      rw [Nat.testBit_and, hi.2.1, ← this.2, hi.2.2]
      simp)
    have q2 : msk τ b s d &&& s = msk τ b s d := sub_of (fun i hi => by
      rw [msk_bit] at hi
      simp only [Bool.and_eq_true, decide_eq_true_eq] at hi
      exact hi.2.1)
    have le1 : msk τ b s d ≤ s &&& al b := by
      have := Nat.and_le_right (n := msk τ b s d) (m := s &&& al b)
      omega
    have sb : ∀ i, (s - msk τ b s d).testBit i = (s.testBit i && !(msk τ b s d).testBit i) := sub_bit s32 q2
    have ih := dp_le (A := A) (D := D) al hd b (s - msk τ b s d) (by omega) τ (fun i hi => by
      rw [sb] at hi
      simp only [Bool.and_eq_true, Bool.not_eq_true'] at hi
      have hh := h i hi.1
      have ne : ¬ τ i = b := fun w => by
        have il := bit_lt hs hi.1
        have := hi.2
        rw [msk_bit, hi.1, w] at this
        simp [il] at this
      exact ⟨by omega, hh.2⟩)
    have l := lw_p (dpA A D d al b) (cuS A D d b) s (s &&& al b) (s &&& al b) 536870912 (msk τ b s d) le1 q1
    have w1 : wmSx A D d τ s (b + 1) = wmSx A D d τ s b + cuS A D d b (msk τ b s d) := by
      unfold wmSx
      rw [fdS_end, show (0 : Int) + (b : Int) = b by omega]
    have w2 : wmSx A D d τ s b = wmSx A D d τ (s - msk τ b s d) b := by
      unfold wmSx
      refine fdS_eq _ _ _ (fun x x0 x1 => ?_)
      have e : msk τ x s d = msk τ x (s - msk τ b s d) d := Nat.eq_of_testBit_eq (fun i => by
        rw [msk_bit, msk_bit, sb, msk_bit]
        by_cases c : τ i = x
        · have c2 : ¬ τ i = b := by omega
          have cx : ¬ x = (b : Int) := by omega
          by_cases il : i < d
          · simp [c, cx, il]
          · simp [il]
        · simp [c])
      rw [e]
    show lwF (dpA A D d al b) (cuS A D d b) s (s &&& al b) (s &&& al b) 536870912 ≤ _
    rw [w1, w2]
    omega
theorem dp_ex {A D : Int → Int} {d : Nat} (al : Nat → Nat) (hd : d ≤ 5) (N : Nat) (hc : ∀ b : Nat, b < N → ∀ u, 0 ≤ cuS A D d b u) : ∀ b s : Nat, b ≤ N → s < 2 ^ d → dpA A D d al b s = 536870912 ∨ ∃ τ : Int → Int, (∀ i : Nat, s.testBit i = true → (0 ≤ τ i ∧ τ i < b) ∧ (al (τ i).toNat).testBit i = true) ∧ dpA A D d al b s = wmSx A D d τ s b
  | 0, s, _, hs => by
    by_cases e : s = 0
    · refine Or.inr ⟨fun _ => 0, fun i hi => ?_, ?_⟩
      · rw [e, Nat.zero_testBit] at hi
        cases hi
      · unfold dpA
        rw [if_pos e]
        rfl
    · exact Or.inl (if_neg e)
  | b + 1, s, hb, hs => by
    have s32 : s < 32 := Nat.lt_of_lt_of_le hs (p32 hd)
    have top := dp_top A D d al (b + 1) s
    have e0 : dpA A D d al (b + 1) s = lwF (dpA A D d al b) (cuS A D d b) s (s &&& al b) (s &&& al b) 536870912 := rfl
    rcases lw_ex (dpA A D d al b) (cuS A D d b) s (s &&& al b) (s &&& al b) 536870912 with h | ⟨q, q0, q1, q2⟩
    · exact Or.inl (e0.trans h)
    · have cq := hc b (by omega) q
      have qs : q &&& s = q := sub_of (fun i hi => by
        have := sub_b q1 hi
        rw [Nat.testBit_and] at this
        exact (Bool.and_eq_true _ _ ▸ this).1)
      have qa : ∀ i, q.testBit i = true → (al b).testBit i = true := fun i hi => by
        have := sub_b q1 hi
        rw [Nat.testBit_and] at this
        exact (Bool.and_eq_true _ _ ▸ this).2
      have sb : ∀ i, (s - q).testBit i = (s.testBit i && !q.testBit i) := sub_bit s32 qs
      rcases dp_ex al hd N hc b (s - q) (by omega) (by omega) with g | ⟨τ, g1, g2⟩
      · exact Or.inl (by omega)
      · refine Or.inr ⟨fun i => if q.testBit i.toNat = true then (b : Int) else τ i, fun i hi => ?_, ?_⟩
        · dsimp only
          rw [Int.toNat_natCast]
          by_cases c : q.testBit i = true
          · rw [if_pos c, Int.toNat_natCast]
            exact ⟨by omega, qa i c⟩
          · rw [if_neg c]
            have := g1 i (by rw [sb, hi]; simp [c])
            exact ⟨by omega, this.2⟩
        · have w1 : wmSx A D d (fun i => if q.testBit i.toNat = true then (b : Int) else τ i) s (b + 1) = wmSx A D d (fun i => if q.testBit i.toNat = true then (b : Int) else τ i) s b + cuS A D d b (msk (fun i => if q.testBit i.toNat = true then (b : Int) else τ i) b s d) := by
            unfold wmSx
            rw [fdS_end, show (0 : Int) + (b : Int) = b by omega]
          have m1 : msk (fun i => if q.testBit i.toNat = true then (b : Int) else τ i) b s d = q := Nat.eq_of_testBit_eq (fun i => by
            rw [msk_bit]
            try dsimp only
            rw [Int.toNat_natCast]
            by_cases c : q.testBit i = true
            · have c1 := sub_b qs c
              have c2 := bit_lt hs c1
              rw [if_pos c, c, c1]
              simp [c2]
            · rw [if_neg c]
              have c' : q.testBit i = false := by
                cases w : q.testBit i with
                | false => rfl
                | true => exact absurd w c
              rw [c']
              by_cases c3 : s.testBit i = true
              · have := g1 i (by rw [sb, c3, c']; rfl)
                have ne : decide (τ i = b) = false := decide_eq_false (by omega)
                rw [ne]
                simp
              · have c4 : s.testBit i = false := by
                  cases w : s.testBit i with
                  | false => rfl
                  | true => exact absurd w c3
                rw [c4]
                simp)
          have w2 : wmSx A D d (fun i => if q.testBit i.toNat = true then (b : Int) else τ i) s b = wmSx A D d τ (s - q) b := by
            unfold wmSx
            refine fdS_eq _ _ _ (fun x x0 x1 => ?_)
            have e : msk (fun i => if q.testBit i.toNat = true then (b : Int) else τ i) x s d = msk τ x (s - q) d := Nat.eq_of_testBit_eq (fun i => by
              rw [msk_bit, msk_bit, sb]
              try dsimp only
              rw [Int.toNat_natCast]
              by_cases c : q.testBit i = true
              · rw [if_pos c, c]
                have ne : decide ((b : Int) = x) = false := decide_eq_false (by omega)
                rw [ne]
                simp
              · rw [if_neg c]
                have c' : q.testBit i = false := by
                  cases w : q.testBit i with
                  | false => rfl
                  | true => exact absurd w c
                rw [c']
                simp)
            rw [e]
          rw [w1, m1, w2, ← g2, e0, q2]
theorem bn_ex {A D : Int → Int} {d : Nat} {τ : Int → Int} {b sd : Int} : ∀ j : Nat, j ≤ d → bnS A D sd (msk τ b (2 ^ d - 1) d) j = exS A D τ b sd j
  | 0, _ => rfl
  | j + 1, h => by
    unfold bnS exS
    rw [bn_ex j (by omega)]
    have e : ((msk τ b (2 ^ d - 1) d).testBit j = true) = (τ j = b) := by
      rw [msk_bit, Nat.testBit_two_pow_sub_one]
      have jd : j < d := by omega
      simp [jd]
    by_cases c : τ j = b ∧ A (404 + 12 * D j) = sd
    · rw [if_pos c, if_pos ⟨by rw [e]; exact c.1, c.2⟩]
    · rw [if_neg c, if_neg (fun w => c ⟨by rw [← e]; exact w.1, w.2⟩)]
theorem wmSx_to {A D : Int → Int} {d : Nat} {τ : Int → Int} : wmSx A D d τ (2 ^ d - 1) (A 0).toNat = toS A D τ d := by
  unfold wmSx toS
  refine fdS_eq _ _ _ (fun x x0 x1 => ?_)
  unfold cuS
  rw [bn_ex d (Nat.le_refl _), bn_ex d (Nat.le_refl _)]
/-- the least in all, under what is allowed -/
def rsA (A : Int → Int) (d : Nat) (al : Nat → Nat) (τ : Int → Int) : Prop := ∀ i : Nat, i < d → (0 ≤ τ i ∧ τ i < A 0) ∧ (al (τ i).toNat).testBit i = true
theorem lia_le {A D : Int → Int} {d : Nat} (al : Nat → Nat) (hd : d ≤ 5) (h0 : 0 ≤ A 0) {τ : Int → Int} (h : rsA A d al τ) : dpA A D d al (A 0).toNat (2 ^ d - 1) ≤ toS A D τ d := by
  rw [← wmSx_to]
  exact dp_le al hd (A 0).toNat (2 ^ d - 1) (by have : 0 < 2 ^ d := Nat.pow_pos (by decide); omega) τ (fun i hi => by
    rw [Nat.testBit_two_pow_sub_one] at hi
    have := h i (of_decide_eq_true hi)
    exact ⟨by omega, this.2⟩)
theorem lia_ex {A D : Int → Int} {d : Nat} (al : Nat → Nat) (hd : d ≤ 5) (h0 : 0 ≤ A 0) (hc : ∀ b : Nat, b < (A 0).toNat → ∀ u, 0 ≤ cuS A D d b u) : dpA A D d al (A 0).toNat (2 ^ d - 1) = 536870912 ∨ ∃ τ, rsA A d al τ ∧ dpA A D d al (A 0).toNat (2 ^ d - 1) = toS A D τ d := by
  rcases dp_ex al hd (A 0).toNat hc (A 0).toNat (2 ^ d - 1) (Nat.le_refl _) (by have : 0 < 2 ^ d := Nat.pow_pos (by decide); omega) with h | ⟨τ, h1, h2⟩
  · exact Or.inl h
  · exact Or.inr ⟨τ, fun i hi => by
      have := h1 i (by rw [Nat.testBit_two_pow_sub_one]; exact decide_eq_true hi)
      exact ⟨by omega, this.2⟩, by rw [← wmSx_to]; exact h2⟩
