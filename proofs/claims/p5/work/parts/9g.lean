/-! marks, made of signs -/
theorem mkS_lt8 {g : Int → Int} (h : ∀ i, 0 ≤ i → i < 8 → 0 ≤ g i ∧ g i ≤ 63) : ∀ n : Nat, n ≤ 8 → 0 ≤ mkS g n ∧ mkS g n < 64 ^ n
  | 0, _ => ⟨Int.le_refl _, by show (0 : Int) < 1; omega⟩
  | n + 1, hn => by
    obtain ⟨a, b⟩ := mkS_lt8 h n (by omega)
    obtain ⟨c, d⟩ := h n (by omega) (by omega)
    have p : (0 : Int) ≤ 64 ^ n := by omega
    have q1 : 0 ≤ g n * 64 ^ n := Int.mul_nonneg c p
    have q2 : g n * 64 ^ n ≤ 63 * 64 ^ n := Int.mul_le_mul_of_nonneg_right d p
    unfold mkS
    rw [Int.pow_succ]
    generalize (64 : Int) ^ n = P at *
    omega
theorem mkS_at {g : Int → Int} (h : ∀ i, 0 ≤ i → i < 8 → 0 ≤ g i ∧ g i ≤ 63) : ∀ n : Nat, n ≤ 8 → ∀ (K : Int) (i : Nat), i < n → (mkS g n + K * 64 ^ n) / 64 ^ i % 64 = g i
  | 0, _, _, _, hi => by omega
  | n + 1, hn, K, i, hi => by
    have e : mkS g (n + 1) + K * 64 ^ (n + 1) = mkS g n + (g n + K * 64) * 64 ^ n := by
      have : mkS g (n + 1) = mkS g n + g n * 64 ^ n := rfl
      rw [this, Int.pow_succ, Int.add_mul, Int.mul_comm (64 ^ n) 64, ← Int.mul_assoc, Int.add_assoc]
    rw [e]
    by_cases c : i < n
    · exact mkS_at h n (by omega) _ i c
    · have c : i = n := by omega
      subst c
      obtain ⟨a, b⟩ := mkS_lt8 h i (by omega)
      obtain ⟨c, d⟩ := h i (by omega) (by omega)
      have p : (64 : Int) ^ i ≠ 0 := by omega
      rw [Int.add_mul_ediv_right _ _ p, Int.ediv_eq_zero_of_lt a b]
      omega
theorem p48 : ∀ n : Nat, n ≤ 8 → (281474976710656 : Int) = 64 ^ (8 - n) * 64 ^ n := by
  intro n hn
  rcases (by omega : n = 0 ∨ n = 1 ∨ n = 2 ∨ n = 3 ∨ n = 4 ∨ n = 5 ∨ n = 6 ∨ n = 7 ∨ n = 8) with rfl | rfl | rfl | rfl | rfl | rfl | rfl | rfl | rfl <;> decide
theorem p64 : ∀ n : Nat, n ≤ 8 → (64 : Int) ^ n ≤ 281474976710656 ∧ (64 : Int) ^ n = 2 ^ (6 * n) := by
  intro n hn
  rcases (by omega : n = 0 ∨ n = 1 ∨ n = 2 ∨ n = 3 ∨ n = 4 ∨ n = 5 ∨ n = 6 ∨ n = 7 ∨ n = 8) with rfl | rfl | rfl | rfl | rfl | rfl | rfl | rfl | rfl <;> decide
theorem sgf_eq {m : Int} (h0 : 0 ≤ m) (h1 : m < 18446744073709551616) {i : Nat} (hi : i ≤ 8) : sgf m i = m / 64 ^ i % 64 := by
  unfold sgf
  have e : zw ((i : Int) * 6) = ((6 * i : Nat) : Int) := by
    rw [zw_lit (by omega) (by omega)]
    omega
  rw [e, qlushr_ok h0 h1 (by omega), (p64 i hi).2]
  refine qand63 (Int.ediv_nonneg h0 (by have := Int.pow_pos (n := 2) (m := 6 * i) (by decide); omega)) (Int.lt_of_le_of_lt (Int.ediv_le_self _ h0) h1)
theorem szf_eq {m : Int} (h0 : 0 ≤ m) (h1 : m < 604462909807314587353088) (h2 : m < 18446744073709551616) : szf m = m / 281474976710656 := by
  unfold szf
  have := qlushr_ok (m := 48) h0 h2 (by decide)
  rw [show ((48 : Nat) : Int) = 48 from rfl] at this
  rw [this]
  have e : (2 : Int) ^ 48 = 281474976710656 := by decide
  rw [e]
  exact qli_ok (by omega) (by omega)
theorem mk_VM {g f : Int → Int} {n : Nat} (hn : 1 ≤ n ∧ n ≤ 8) (hg : ∀ i : Int, 0 ≤ i → i < n → 1 ≤ g i ∧ g i ≤ 37 ∧ f i = ocF (g i)) : VM (mkS g n + n * 281474976710656) n f := by
  let g' : Int → Int := fun i => if 0 ≤ i ∧ i < n then g i else 0
  have e : mkS g n = mkS g' n := mkS_eq n (fun i hi => (if_pos (by omega)).symm)
  have h' : ∀ i, 0 ≤ i → i < 8 → 0 ≤ g' i ∧ g' i ≤ 63 := fun i i0 i1 => by
    show 0 ≤ (if 0 ≤ i ∧ i < n then g i else 0) ∧ (if 0 ≤ i ∧ i < n then g i else 0) ≤ 63
    split
    · have := hg i (by omega) (by omega)
      omega
    · omega
  obtain ⟨l0, l1⟩ := mkS_lt8 h' n hn.2
  have l2 := (p64 n hn.2).1
  rw [← e] at l0 l1
  have sg : ∀ i : Int, 0 ≤ i → i < n → sgf (mkS g n + n * 281474976710656) i = g i := fun i i0 i1 => by
    obtain ⟨k, rfl⟩ := Int.eq_ofNat_of_zero_le i0
    rw [sgf_eq (by omega) (by omega) (by omega)]
    have a := mkS_at h' n hn.2 (n * 64 ^ (8 - n)) k (by omega)
    rw [Int.mul_assoc, ← p48 n hn.2, ← e] at a
    rw [a]
    exact if_pos (by omega)
  refine ⟨?_, by omega, fun i i0 i1 => ?_, ?_⟩
  · rw [szf_eq (by omega) (by omega) (by omega)]
    omega
  · rw [sg i i0 i1]
    exact hg i i0 i1
  · rw [Int.toNat_natCast, mkS_eq n (fun i hi => sg i (by omega) (by omega))]
