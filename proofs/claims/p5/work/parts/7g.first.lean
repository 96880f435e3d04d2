/-! ===== the first heap: its types, and the runs of both constructors ===== -/
theorem RF_HI0 : ∀ c, c < 622 → (zrtL c).all (fun q => decide (lk (iv c) q.1 = q.2)) = true := by decide +kernel
theorem lk_0 : ∀ (l : List (Nat × Int)) (n i : Nat), l.all (fun q => Nat.blt q.1 n) = true → n ≤ i → lk l i = 0
  | [], _, _, _, _ => rfl
  | q :: t, n, i, h, hi => by
    rw [List.all_cons, Bool.and_eq_true] at h
    have h1 := Nat.blt_eq.mp h.1
    unfold lk
    have hb : Nat.beq q.1 i = false := zbeq_ne (by omega)
    rw [hb]
    exact lk_0 t n i h.2 hi
theorem iv_len : ∀ c, c < 622 → (iv c).all (fun q => Nat.blt q.1 (zSh c).2.1) = true := by decide +kernel
theorem RF_HI : RF HI := by
  refine ⟨fun c i hc v hv => ?_, fun c i hv => ?_⟩
  · have h := List.all_eq_true.mp (RF_HI0 c (by have : zNC = 622 := rfl; omega)) (i, v) (zlook_mem hv)
    rw [HI_nat]
    exact decide_eq_true_iff.mp h
  · show (if 0 ≤ c ∧ 0 ≤ i then lk (iv c.toNat) i.toNat else 0) = 0
    by_cases q : 0 ≤ c ∧ 0 ≤ i
    · rw [if_pos q]
      have hz : zNC = 622 := rfl
      by_cases q2 : c.toNat < 622
      · refine lk_0 _ _ _ (iv_len c.toNat q2) ?_
        have : ¬ i < ((zSh c.toNat).2.1 : Int) := fun q3 => hv ⟨q.1, by rw [hz]; omega, q.2, q3⟩
        omega
      · have hb : Nat.blt c.toNat 622 = false := by
          cases q3 : Nat.blt c.toNat 622 with
          | false => rfl
          | true => exact (q2 (Nat.blt_eq.mp q3)).elim
        have : iv c.toNat = [] := by
          unfold iv
          rw [hb]
          rfl
        rw [this]
        rfl
    · rw [if_neg q]
noncomputable def avb (a : aV) (x : Int) : Bool := (Nat.beq a.1 0 && Nat.beq a.2.2.2 1 && decide (a.2.1 ≤ x) && decide (x ≤ a.2.2.1)) || (Nat.beq a.1 1 && decide (x = 0) && decide (a.2.1 ≠ 2)) || (Nat.beq a.1 2 && decide (0 ≤ x) && decide (x < 622) && Nat.beq (tau x.toNat) a.2.2.2)
theorem avb_ok {a : aV} {x : Int} (h : avb a x = true) : aval a (a.1, x) := by
  unfold avb at h
  rw [Bool.or_eq_true, Bool.or_eq_true] at h
  rcases h with (h | h) | h
  · simp only [Bool.and_eq_true, decide_eq_true_iff] at h
    obtain ⟨⟨⟨h1, h2⟩, h3⟩, h4⟩ := h
    have h1 := Nat.eq_of_beq_eq_true h1
    have h2 := Nat.eq_of_beq_eq_true h2
    refine ⟨rfl, fun _ => ⟨h3, h4, ?_⟩, fun q => by omega, fun q => by omega⟩
    rw [h2]
    exact dvd_one _
  · simp only [Bool.and_eq_true, decide_eq_true_iff] at h
    obtain ⟨⟨h1, h2⟩, h3⟩ := h
    have h1 := Nat.eq_of_beq_eq_true h1
    refine ⟨rfl, fun q => by omega, fun _ => Or.inr ⟨?_, fun q => (h3 q).elim⟩, fun q => by omega⟩
    show MK x
    rw [h2]
    exact MK_0
  · simp only [Bool.and_eq_true, decide_eq_true_iff] at h
    obtain ⟨⟨⟨h1, h2⟩, h3⟩, h4⟩ := h
    have h1 := Nat.eq_of_beq_eq_true h1
    exact ⟨rfl, fun q => by omega, fun q => by omega, fun _ => ⟨h2, h3, Nat.eq_of_beq_eq_true h4⟩⟩
theorem WT_HI0 : ∀ c, c < 622 → (bif (iv c).isEmpty && Nat.ble 33 (tau c) then avb (fty (tau c) 0) 0 else (List.range (zSh c).2.1).all (fun i => avb (fty (tau c) i) (lk (iv c) i))) = true := by decide +kernel
theorem fty_33 {t i : Nat} (h : 33 ≤ t) : fty t i = fty t 0 := by
  unfold fty
  rw [if_neg (by omega), if_neg (by omega), if_neg (by omega), if_neg (by omega)]
theorem WT_HI (g : Nat → Nat → Int) : WT 2 g HI := by
  intro c i hc hi
  refine ⟨?_, fun q => by rw [fz_two] at q; cases q⟩
  have e : gv HI c i = lk (iv c) i := by
    rw [gv_RF RF_HI (by omega) (by have : zNC = 622 := rfl; omega) (by omega), HI_nat]
  rw [e]
  have h := WT_HI0 c hc
  cases hb : ((iv c).isEmpty && Nat.ble 33 (tau c)) with
  | true =>
    rw [hb, cond_true] at h
    rw [Bool.and_eq_true] at hb
    rw [List.isEmpty_iff.mp hb.1, fty_33 (Nat.le_of_ble_eq_true hb.2)]
    exact avb_ok h
  | false =>
    rw [hb, cond_false] at h
    exact avb_ok (List.all_eq_true.mp h i (List.mem_range.mpr hi))
theorem HI_at : HI 0 7 = 0 ∧ HI 590 2 = 0 ∧ HI 213 1 = 0 ∧ HI 590 4 = 0 ∧ HI 591 11 = 0 := by
  have a := HI_nat 0 7
  have b := HI_nat 590 2
  have c := HI_nat 213 1
  have d := HI_nat 590 4
  have e := HI_nat 591 11
  exact ⟨a.trans (by decide +kernel), b.trans (by decide +kernel), c.trans (by decide +kernel), d.trans (by decide +kernel), e.trans (by decide +kernel)⟩
theorem TI_HI (g : Nat → Nat → Int) : TI g HI := by
  obtain ⟨a, b, c, d, e⟩ := HI_at
  refine ⟨WT_HI g, ?_, ⟨?_, ?_, fun k hk => ?_⟩, fun x x0 x1 => by omega⟩
  · show LOK (HI 1 2) _ (lgf (ent HI) (HI 0 8) (HI 0 7).toNat)
    rw [a]
    exact trivial
  · show 0 ≤ HI 591 11
    omega
  · show HI 591 11 ≤ 64
    omega
  · have hk : (k : Int) < HI 591 11 := hk
    omega
