/-! ===== closing contracts ===== -/
theorem fin_pure {lv : Nat} {g : Nat → Nat → Int} {H : PH} {a : aV} {fs : List (Int × Int × Nat × Int × Int)} {as : List pv} {x : Int} (hW : WT lv g H) (hx : aval a (0, x)) (hf : ∀ f ∈ fs, f.1 ≤ x → x ≤ f.2.1 → ∀ y, as[f.2.2.1]? = some (0, y) → f.2.2.2.1 ≤ y ∧ y ≤ f.2.2.2.2) : WT lv g H ∧ rok (some a) (some (0, x)) ∧ (∀ x', some ((0, x) : pv) = some (0, x') → ∀ f ∈ fs, f.1 ≤ x' → x' ≤ f.2.1 → ∀ y, as[f.2.2.1]? = some (0, y) → f.2.2.2.1 ≤ y ∧ y ≤ f.2.2.2.2) ∧ frm [] H H ∧ (∀ x', some ((0, x) : pv) = some (0, x') → ∀ f ∈ ([] : List aK), f.1 ≤ x' → x' ≤ f.2.1 → fok [] H f.2.2) ∧ ∀ f ∈ ([] : List aF), fok [] H f :=
  ⟨hW, hx, fun x' e => by cases e; exact hf, frm_refl _ _, fun _ _ f hf => (by cases hf), fun f hf => (by cases hf)⟩
theorem fin_plain {lv : Nat} {g : Nat → Nat → Int} {H H' : PH} {a : Option aV} {r : Option pv} {md : List Nat} {as : List pv} (hW : WT lv g H') (hr : rok a r) (hf : frm md H H') : WT lv g H' ∧ rok a r ∧ (∀ x', r = some (0, x') → ∀ f ∈ ([] : List (Int × Int × Nat × Int × Int)), f.1 ≤ x' → x' ≤ f.2.1 → ∀ y, as[f.2.2.1]? = some (0, y) → f.2.2.2.1 ≤ y ∧ y ≤ f.2.2.2.2) ∧ frm md H H' ∧ (∀ x', r = some (0, x') → ∀ f ∈ ([] : List aK), f.1 ≤ x' → x' ≤ f.2.1 → fok [] H' f.2.2) ∧ ∀ f ∈ ([] : List aF), fok [] H' f :=
  ⟨hW, hr, fun _ _ f hf => (by cases hf), hf, fun _ _ f hf => (by cases hf), fun f hf => (by cases hf)⟩
theorem fact1 {j : Nat} {cl ch l h v x : Int} {as : List pv} (hj : as[j]? = some (0, v)) (hx : cl ≤ x → x ≤ ch → l ≤ v ∧ v ≤ h) : ∀ f ∈ [((cl, ch, j, l, h) : Int × Int × Nat × Int × Int)], f.1 ≤ x → x ≤ f.2.1 → ∀ y, as[f.2.2.1]? = some (0, y) → f.2.2.2.1 ≤ y ∧ y ≤ f.2.2.2.2 := by
  intro f hf z1 z2 y hy
  rcases List.mem_cons.mp hf with rfl | hf
  · have e : some ((0, v) : pv) = some (0, y) := hj.symm.trans hy
    cases e
    exact hx z1 z2
  · cases hf
theorem sref {t : Nat} (n : Nat) (h1 : n < 622) (h2 : tau n = t) : aval (2, 0, 0, t) (2, (n : Int)) := ⟨rfl, fun q => (by cases q), fun q => (by cases q), fun _ => ⟨by show (0 : Int) ≤ n; omega, by show (n : Int) < 622; omega, by show tau ((n : Int)).toNat = t; rw [Int.toNat_natCast]; exact h2⟩⟩
theorem b01i {c : Prop} [Decidable c] : aval (0, 0, 1, 1) (0, if c then 1 else 0) := b01 (by split <;> omega)
theorem if_ne {c : Prop} [Decidable c] (h : (if c then (1 : Int) else 0) ≠ 0) : c := by
  by_cases q : c
  · exact q
  · rw [if_neg q] at h
    exact (h rfl).elim
