/-! ===== behind both constructors both states say the same ===== -/
noncomputable def hv (c i : Nat) : Int := lk (iv c) i
theorem hv_at (c i : Nat) : HI (c : Int) (i : Int) = hv c i := HI_nat c i
theorem h_lines : (List.range 60).all (fun k => decide (0 ≤ hv 47 k) && decide (hv 47 k < 622) && Nat.beq (zSh (hv 47 k).toNat).1 5) = true := by decide +kernel
theorem h_lines2 : (List.range 60).all (fun k => (List.range 60).all (fun l => Nat.beq k l || !decide (hv 47 k = hv 47 l))) = true := by decide +kernel
theorem h_deeds : (List.range 20).all (fun l => decide (0 ≤ hv (469 + 6 * l) 4) && decide (hv (469 + 6 * l) 4 < 622) && Nat.beq (zSh (hv (469 + 6 * l) 4).toNat).1 4 && decide (0 ≤ hv (469 + 6 * l) 5) && decide (hv (469 + 6 * l) 5 < 622) && Nat.beq (zSh (hv (469 + 6 * l) 5).toNat).1 5 && !decide (hv (469 + 6 * l) 4 = hv 1 5) && !decide (hv (469 + 6 * l) 4 = hv 1 6)) = true := by decide +kernel
theorem h_deeds2 : (List.range 20).all (fun l => (List.range 20).all (fun m => Nat.beq l m || (!decide (hv (469 + 6 * l) 4 = hv (469 + 6 * m) 4) && !decide (hv (469 + 6 * l) 5 = hv (469 + 6 * m) 5)))) = true := by decide +kernel
theorem h_deeds3 : (List.range 20).all (fun l => (List.range 60).all (fun k => !decide (hv (469 + 6 * l) 5 = hv 47 k))) = true := by decide +kernel
theorem h_costs : (List.range 38).all (fun a => (List.range 38).all (fun b => Nat.beq a 0 || Nat.beq b 0 || decide (hv (4 + a) b = if ocF a = ocF b then 0 else if ocF a = 46 ∨ ocF b = 46 then 1 else 3))) = true := by decide +kernel
theorem h_row : (List.range 1124).all (fun i => decide (-2147483648 ≤ hv 591 i) && decide (hv 591 i < 2147483648)) = true := by decide +kernel
theorem h_bills : (List.range 12).all (fun b => decide (0 ≤ hv 591 (92 + 26 * b)) && decide (hv 591 (92 + 26 * b) ≤ 8) && decide (0 ≤ hv 591 (92 + 26 * b + 13)) && decide (hv 591 (92 + 26 * b + 13) ≤ 6)) = true := by decide +kernel
theorem h_rows : (List.range 60).all (fun k => decide (0 ≤ hv 591 (404 + 12 * k + 3)) && decide (hv 591 (404 + 12 * k + 3) ≤ 8)) = true := by decide +kernel
theorem h_vals : (hv 591 0 = 0 ∧ hv 591 1 = 0 ∧ hv 591 2 = 0 ∧ hv 591 10 = 0 ∧ hv 591 11 = 0) ∧ (hv 1 2 = 0 ∧ hv 2 3 = 0 ∧ hv 1 4 = 0) ∧ (hv 591 3 = hv 1 7 ∧ hv 591 4 = hv 1 8 ∧ hv 591 5 = hv 1 9 ∧ hv 591 6 = hv 1 11 ∧ hv 591 7 = hv 1 12 ∧ hv 591 8 = hv 1 10 ∧ hv 591 9 = hv 1 13) := by decide +kernel
theorem h_sets : ((0 ≤ hv 591 3 ∧ hv 591 3 ≤ 20) ∧ (0 ≤ hv 591 4 ∧ hv 591 4 ≤ 24) ∧ (1 ≤ hv 591 5 ∧ hv 591 5 ≤ 9999) ∧ (0 ≤ hv 591 6 ∧ hv 591 6 ≤ 99) ∧ (0 ≤ hv 591 7 ∧ hv 591 7 ≤ 999) ∧ (0 ≤ hv 591 8 ∧ hv 591 8 ≤ 99)) ∧ (hv 1 5 = 48 ∧ hv 1 6 = 51 ∧ hv 48 3 = 0 ∧ hv 48 2 = 0) ∧ (hv 0 7 = 0 ∧ 0 ≤ hv 0 8 ∧ hv 0 8 ≤ 19 ∧ hv 215 1 = 0 ∧ hv 221 2 = 0 ∧ hv 213 1 = 0 ∧ hv 590 4 = 0 ∧ hv 590 2 = 0) ∧ (zSh 48).1 = 4 ∧ (zSh 51).1 = 4 := by decide +kernel
theorem all_r {n : Nat} {p : Nat → Bool} (h : (List.range n).all p = true) {k : Nat} (hk : k < n) : p k = true := List.all_eq_true.mp h k (List.mem_range.mpr hk)
theorem LDA_HI : LDA HI := by
  have ln : ∀ k : Nat, k < 60 → KL (HI 47 (k : Int)) := fun k hk => by
    have q := all_r h_lines hk
    simp only [Bool.and_eq_true, decide_eq_true_eq, Nat.beq_eq] at q
    rw [show HI 47 (k : Int) = hv 47 k from hv_at 47 k]
    exact ⟨q.1.1, q.1.2, q.2⟩
  have ln2 : ∀ k l : Nat, k < 60 → l < 60 → HI 47 (k : Int) = HI 47 (l : Int) → k = l := fun k l hk hl e => by
    have q := all_r (all_r h_lines2 hk) hl
    simp only [Bool.or_eq_true, Nat.beq_eq, Bool.not_eq_true', decide_eq_false_iff_not] at q
    rw [show HI 47 (k : Int) = hv 47 k from hv_at 47 k, show HI 47 (l : Int) = hv 47 l from hv_at 47 l] at e
    exact q.resolve_right (fun w => w e)
  have d : ∀ l : Nat, (HI (469 + 6 * (l : Int)) 4 = hv (469 + 6 * l) 4) ∧ HI (469 + 6 * (l : Int)) 5 = hv (469 + 6 * l) 5 := fun l => ⟨hv_at (469 + 6 * l) 4, hv_at (469 + 6 * l) 5⟩
  have w5 : HI 1 5 = hv 1 5 := hv_at 1 5
  have w6 : HI 1 6 = hv 1 6 := hv_at 1 6
  have nat : ∀ x : Int, 0 ≤ x → ∃ k : Nat, x = (k : Int) := fun x x0 => Int.eq_ofNat_of_zero_le x0
  refine ⟨⟨fun k k0 k1 => ?_, fun k l k0 k1 l0 l1 e => ?_⟩, fun l l0 l1 => ?_, ?_, fun l l0 l1 => ?_, fun l m l0 l1 m0 m1 e => ?_, fun l k l0 l1 k0 k1 e => ?_, fun l m l0 l1 m0 m1 e => ?_⟩
  · obtain ⟨k, rfl⟩ := nat k k0
    exact ln k (by omega)
  · obtain ⟨k, rfl⟩ := nat k k0
    obtain ⟨l, rfl⟩ := nat l l0
    rw [ln2 k l (by omega) (by omega) e]
  · obtain ⟨l, rfl⟩ := nat l l0
    have q := all_r h_deeds (k := l) (by omega)
    simp only [Bool.and_eq_true, decide_eq_true_eq, Nat.beq_eq] at q
    rw [(d l).1, (d l).2]
    exact ⟨⟨q.1.1.1.1.1.1.1, q.1.1.1.1.1.1.2, q.1.1.1.1.1.2⟩, q.1.1.1.1.2, q.1.1.1.2, q.1.1.2⟩
  · have s := h_sets
    rw [w5, w6, s.2.1.1, s.2.1.2.1]
    exact ⟨⟨by decide, by decide, s.2.2.2.1⟩, ⟨by decide, by decide, s.2.2.2.2⟩, by decide⟩
  · obtain ⟨l, rfl⟩ := nat l l0
    have q := all_r h_deeds (k := l) (by omega)
    simp only [Bool.and_eq_true, Bool.not_eq_true', decide_eq_false_iff_not] at q
    rw [(d l).1, w5, w6]
    exact ⟨q.1.2, q.2⟩
  · obtain ⟨l, rfl⟩ := nat l l0
    obtain ⟨m, rfl⟩ := nat m m0
    have q := all_r (all_r h_deeds2 (k := l) (by omega)) (k := m) (by omega)
    simp only [Bool.or_eq_true, Bool.and_eq_true, Nat.beq_eq, Bool.not_eq_true', decide_eq_false_iff_not] at q
    rw [(d l).1, (d m).1] at e
    rw [q.resolve_right (fun w => w.1 e)]
  · obtain ⟨l, rfl⟩ := nat l l0
    obtain ⟨k, rfl⟩ := nat k k0
    have q := all_r (all_r h_deeds3 (k := l) (by omega)) (k := k) (by omega)
    simp only [Bool.not_eq_true', decide_eq_false_iff_not] at q
    rw [(d l).2, show HI 47 (k : Int) = hv 47 k from hv_at 47 k] at e
    exact q e
  · obtain ⟨l, rfl⟩ := nat l l0
    obtain ⟨m, rfl⟩ := nat m m0
    have q := all_r (all_r h_deeds2 (k := l) (by omega)) (k := m) (by omega)
    simp only [Bool.or_eq_true, Bool.and_eq_true, Nat.beq_eq, Bool.not_eq_true', decide_eq_false_iff_not] at q
    rw [(d l).2, (d m).2] at e
    rw [q.resolve_right (fun w => w.2 e)]
theorem OKR_HI : OKR (HI 591) := by
  have e : ∀ i : Nat, HI 591 (i : Int) = hv 591 i := fun i => hv_at 591 i
  have e0 : HI 591 0 = 0 := (e 0).trans h_vals.1.1
  have e1 : HI 591 1 = 0 := (e 1).trans h_vals.1.2.1
  have e2 : HI 591 2 = 0 := (e 2).trans h_vals.1.2.2.1
  have e10 : HI 591 10 = 0 := (e 10).trans h_vals.1.2.2.2.1
  have e11 : HI 591 11 = 0 := (e 11).trans h_vals.1.2.2.2.2
  have nat : ∀ x : Int, 0 ≤ x → ∃ k : Nat, x = (k : Int) := fun x x0 => Int.eq_ofNat_of_zero_le x0
  refine ⟨⟨by rw [e0]; decide, by rw [e1]; decide, by rw [e2]; decide, fun b b0 b1 => ?_, fun b b0 b1 => ?_, fun k k0 k1 => ?_, fun i i0 i1 => ?_⟩, ⟨⟨by rw [e11]; decide, by rw [e11]; decide, fun k hk => by rw [e11] at hk; omega⟩, by rw [e10, e11]⟩, ?_, ⟨fun b b0 b1 => by rw [e0] at b1; omega, fun k k0 k1 => by rw [e2] at k1; omega⟩⟩
  · obtain ⟨b, rfl⟩ := nat b b0
    have q := all_r h_bills (k := b) (by omega)
    simp only [Bool.and_eq_true, decide_eq_true_eq] at q
    rw [show HI 591 (92 + 26 * (b : Int)) = hv 591 (92 + 26 * b) from hv_at 591 (92 + 26 * b)]
    exact ⟨q.1.1.1, q.1.1.2⟩
  · obtain ⟨b, rfl⟩ := nat b b0
    have q := all_r h_bills (k := b) (by omega)
    simp only [Bool.and_eq_true, decide_eq_true_eq] at q
    rw [show HI 591 (92 + 26 * (b : Int) + 13) = hv 591 (92 + 26 * b + 13) from hv_at 591 (92 + 26 * b + 13)]
    exact ⟨q.1.2, q.2⟩
  · obtain ⟨k, rfl⟩ := nat k k0
    have q := all_r h_rows (k := k) (by omega)
    simp only [Bool.and_eq_true, decide_eq_true_eq] at q
    rw [show HI 591 (404 + 12 * (k : Int) + 3) = hv 591 (404 + 12 * k + 3) from hv_at 591 (404 + 12 * k + 3)]
    exact q
  · obtain ⟨i, rfl⟩ := nat i i0
    have q := all_r h_row (k := i) (by omega)
    simp only [Bool.and_eq_true, decide_eq_true_eq] at q
    rw [e i]
    exact q
  · have s := h_sets.1
    unfold OKS
    rw [show HI 591 3 = hv 591 3 from e 3, show HI 591 4 = hv 591 4 from e 4, show HI 591 5 = hv 591 5 from e 5, show HI 591 6 = hv 591 6 from e 6, show HI 591 7 = hv 591 7 from e 7, show HI 591 8 = hv 591 8 from e 8]
    exact s
theorem CI_HI : CI HI (HI 591) := by
  have e : ∀ c i : Nat, HI (c : Int) (i : Int) = hv c i := hv_at
  have e0 : HI 591 0 = 0 := (e 591 0).trans h_vals.1.1
  have e1 : HI 591 1 = 0 := (e 591 1).trans h_vals.1.2.1
  have e2 : HI 591 2 = 0 := (e 591 2).trans h_vals.1.2.2.1
  have v := h_vals.2
  have s := h_sets
  have w5 : HI 1 5 = 48 := (e 1 5).trans s.2.1.1
  have z3 : HI 48 3 = 0 := (e 48 3).trans s.2.1.2.2.1
  have z2 : HI 48 2 = 0 := (e 48 2).trans s.2.1.2.2.2
  have nat : ∀ x : Int, 0 ≤ x → ∃ k : Nat, x = (k : Int) := fun x x0 => Int.eq_ofNat_of_zero_le x0
  have ch : ∀ x y : Int, chA (HI 591) x y = if x = y then 0 else if x = 46 ∨ y = 46 then 1 else 3 := fun x y => by
    have l : likA (HI 591) x y = false := by
      unfold likA
      rw [e1]
      rfl
    unfold chA
    rw [l]
    simp
  refine ⟨⟨⟨e0.trans ((e 1 2).trans v.1.1).symm, e1.trans ((e 2 3).trans v.1.2.1).symm, e2.trans ((e 1 4).trans v.1.2.2).symm, (e 591 3).trans (v.2.1.trans (e 1 7).symm), (e 591 4).trans (v.2.2.1.trans (e 1 8).symm), (e 591 5).trans (v.2.2.2.1.trans (e 1 9).symm), (e 591 6).trans (v.2.2.2.2.1.trans (e 1 11).symm), (e 591 7).trans (v.2.2.2.2.2.1.trans (e 1 12).symm), (e 591 8).trans (v.2.2.2.2.2.2.1.trans (e 1 10).symm), (e 591 9).trans (v.2.2.2.2.2.2.2.trans (e 1 13).symm)⟩, fun b b0 b1 => by rw [e0] at b1; omega, fun k k0 k1 => by rw [e2] at k1; omega, fun a b a0 a1 b0 b1 => ?_, ?_⟩, fun k k0 k1 => by rw [e2] at k1; omega, LDA_HI.1⟩
  · obtain ⟨a, rfl⟩ := nat a (by omega)
    obtain ⟨b, rfl⟩ := nat b (by omega)
    have q := all_r (all_r h_costs (k := a) (by omega)) (k := b) (by omega)
    simp only [Bool.or_eq_true, decide_eq_true_eq, Nat.beq_eq] at q
    rw [show HI (4 + (a : Int)) (b : Int) = hv (4 + a) b from hv_at (4 + a) b, ch]
    rcases q with (q | q) | q
    · omega
    · omega
    · exact q
  · rw [w5]
    refine ⟨⟨by decide, by decide, s.2.2.2.1⟩, ?_, ?_, fun k k0 k1 => by rw [z2] at k1; omega⟩
    · rw [z3]
      exact (e 591 10).trans h_vals.1.2.2.2.1
    · rw [z2]
      exact (e 591 11).trans h_vals.1.2.2.2.2
theorem REL_HI : REL HI := by
  have e : ∀ c i : Nat, HI (c : Int) (i : Int) = hv c i := hv_at
  have e1 : HI 591 1 = 0 := (e 591 1).trans h_vals.1.2.1
  obtain ⟨s1, s2, s3, s4, s5, s6, s7, s8⟩ := h_sets.2.2.1
  refine ⟨⟨fun _ => HI 591, 0, rfl, ⟨CI_HI, ⟨fun j j0 j1 => ?_, fun i j i0 i1 => ?_⟩, LDA_HI, ⟨by decide, (e 0 7).trans s1⟩, ⟨by rw [show HI 0 8 = hv 0 8 from e 0 8]; exact s2, by rw [show HI 0 8 = hv 0 8 from e 0 8]; exact s3⟩, fun _ _ _ => OKR_HI, fun x x0 x1 => by omega⟩, MCC_0 ((e 215 1).trans s4) ((e 221 2).trans s5), (e 590 2).trans s8, fun j k j0 j1 => by omega⟩, TAP_0 ((e 213 1).trans s6) ((e 590 4).trans s7)⟩
  · have j1 : j < HI 591 1 := j1
    rw [e1] at j1
    omega
  · have i1 : i < HI 591 1 := i1
    rw [e1] at i1
    omega
