/-! ===== the model's row by its types, and what was said of it before ===== -/
def veq (a b : aV) : Bool := Nat.beq a.1 b.1 && decide (a.2.1 = b.2.1) && decide (a.2.2.1 = b.2.2.1) && Nat.beq a.2.2.2 b.2.2.2
theorem veq_ok {a b : aV} (h : veq a b = true) : a = b := by
  unfold veq at h
  simp only [Bool.and_eq_true, decide_eq_true_iff] at h
  obtain ⟨⟨⟨h1, h2⟩, h3⟩, h4⟩ := h
  exact Prod.ext (Nat.eq_of_beq_eq_true h1) (Prod.ext h2 (Prod.ext h3 (Nat.eq_of_beq_eq_true h4)))
def imp (a b : Bool) : Bool := !a || b
theorem imp_ok {a b : Bool} (h : imp a b = true) (ha : a = true) : b = true := by
  unfold imp at h
  rw [ha] at h
  exact h
def chkb (k : Nat) : Bool := imp (Nat.beq k 0) (veq (allT k) (0, 0, 12, 1)) && imp (Nat.beq k 1) (veq (allT k) (0, 0, 8, 1)) && imp (Nat.beq k 2) (veq (allT k) (0, 0, 60, 1)) && imp (Nat.beq k 4) (veq (allT k) (0, -2147483648, 24, 1)) && imp (Nat.ble 92 k && Nat.blt k 404 && Nat.beq ((k - 92) % 26) 0) (veq (allT k) (0, 0, 8, 1)) && imp (Nat.ble 92 k && Nat.blt k 404 && Nat.beq ((k - 92) % 26) 9) (veq (allT k) (0, 0, 999, 1)) && imp (Nat.ble 92 k && Nat.blt k 404 && Nat.beq ((k - 92) % 26) 10) (veq (allT k) (0, 0, 9999, 1)) && imp (Nat.ble 92 k && Nat.blt k 404 && Nat.beq ((k - 92) % 26) 13) (veq (allT k) (0, 0, 6, 1)) && imp (Nat.ble 404 k && Nat.beq ((k - 404) % 12) 3) (veq (allT k) (0, 0, 8, 1))
theorem chkb_all : ∀ k, k < 1124 → chkb k = true := by decide +kernel
def chkc (k : Nat) : Bool := veq (allT k) vtop || Nat.beq k 0 || Nat.beq k 1 || Nat.beq k 2 || Nat.beq k 4 || (Nat.ble 92 k && Nat.blt k 404 && Nat.beq ((k - 92) % 26) 0) || (Nat.ble 92 k && Nat.blt k 404 && Nat.beq ((k - 92) % 26) 9) || (Nat.ble 92 k && Nat.blt k 404 && Nat.beq ((k - 92) % 26) 10) || (Nat.ble 92 k && Nat.blt k 404 && Nat.beq ((k - 92) % 26) 13) || (Nat.ble 404 k && Nat.beq ((k - 404) % 12) 3)
theorem chkc_all : ∀ k, k < 1124 → chkc k = true := by decide +kernel
theorem and3 {k r : Nat} (h1 : 92 ≤ k) (h2 : k < 404) (h3 : (k - 92) % 26 = r) : (Nat.ble 92 k && Nat.blt k 404 && Nat.beq ((k - 92) % 26) r) = true := by
  rw [Nat.ble_eq_true_of_le h1, Nat.blt_eq.mpr h2, h3, Nat.beq_refl]
  rfl
theorem and3' {k r : Nat} (h : (Nat.ble 92 k && Nat.blt k 404 && Nat.beq ((k - 92) % 26) r) = true) : 92 ≤ k ∧ k < 404 ∧ (k - 92) % 26 = r := by
  rw [Bool.and_eq_true, Bool.and_eq_true] at h
  exact ⟨Nat.le_of_ble_eq_true h.1.1, Nat.blt_eq.mp h.1.2, Nat.eq_of_beq_eq_true h.2⟩
theorem allT_b (k : Nat) (hk : k < 1124) : (k = 0 → allT k = (0, 0, 12, 1)) ∧ (k = 1 → allT k = (0, 0, 8, 1)) ∧ (k = 2 → allT k = (0, 0, 60, 1)) ∧ (k = 4 → allT k = (0, -2147483648, 24, 1)) ∧ (92 ≤ k → k < 404 → ((k - 92) % 26 = 0 → allT k = (0, 0, 8, 1)) ∧ ((k - 92) % 26 = 9 → allT k = (0, 0, 999, 1)) ∧ ((k - 92) % 26 = 10 → allT k = (0, 0, 9999, 1)) ∧ ((k - 92) % 26 = 13 → allT k = (0, 0, 6, 1))) ∧ (404 ≤ k → (k - 404) % 12 = 3 → allT k = (0, 0, 8, 1)) := by
  have h := chkb_all k hk
  unfold chkb at h
  simp only [Bool.and_eq_true] at h
  obtain ⟨⟨⟨⟨⟨⟨⟨⟨h0, h1⟩, h2⟩, h4⟩, b0⟩, b1⟩, b2⟩, b3⟩, l3⟩ := h
  refine ⟨fun e => veq_ok (imp_ok h0 (by rw [e]; rfl)), fun e => veq_ok (imp_ok h1 (by rw [e]; rfl)), fun e => veq_ok (imp_ok h2 (by rw [e]; rfl)), fun e => veq_ok (imp_ok h4 (by rw [e]; rfl)), fun e1 e2 => ⟨fun e => veq_ok (imp_ok b0 (and3 e1 e2 e)), fun e => veq_ok (imp_ok b1 (and3 e1 e2 e)), fun e => veq_ok (imp_ok b2 (and3 e1 e2 e)), fun e => veq_ok (imp_ok b3 (and3 e1 e2 e))⟩, fun e1 e => veq_ok (imp_ok l3 (by rw [Nat.ble_eq_true_of_le e1, e]; rfl))⟩
theorem allT_c (k : Nat) (hk : k < 1124) : allT k = vtop ∨ (k = 0 ∧ allT k = (0, 0, 12, 1)) ∨ (k = 1 ∧ allT k = (0, 0, 8, 1)) ∨ (k = 2 ∧ allT k = (0, 0, 60, 1)) ∨ (k = 4 ∧ allT k = (0, -2147483648, 24, 1)) ∨ (92 ≤ k ∧ k < 404 ∧ (((k - 92) % 26 = 0 ∧ allT k = (0, 0, 8, 1)) ∨ ((k - 92) % 26 = 9 ∧ allT k = (0, 0, 999, 1)) ∨ ((k - 92) % 26 = 10 ∧ allT k = (0, 0, 9999, 1)) ∨ ((k - 92) % 26 = 13 ∧ allT k = (0, 0, 6, 1)))) ∨ (404 ≤ k ∧ (k - 404) % 12 = 3 ∧ allT k = (0, 0, 8, 1)) := by
  have h := chkc_all k hk
  obtain ⟨b0, b1, b2, b4, b5, b6⟩ := allT_b k hk
  unfold chkc at h
  simp only [Bool.or_eq_true] at h
  rcases h with (((((((((h | h) | h) | h) | h) | h) | h) | h) | h) | h)
  · exact Or.inl (veq_ok h)
  · have e := Nat.eq_of_beq_eq_true h; exact Or.inr (Or.inl ⟨e, b0 e⟩)
  · have e := Nat.eq_of_beq_eq_true h; exact Or.inr (Or.inr (Or.inl ⟨e, b1 e⟩))
  · have e := Nat.eq_of_beq_eq_true h; exact Or.inr (Or.inr (Or.inr (Or.inl ⟨e, b2 e⟩)))
  · have e := Nat.eq_of_beq_eq_true h; exact Or.inr (Or.inr (Or.inr (Or.inr (Or.inl ⟨e, b4 e⟩))))
  · obtain ⟨e1, e2, e3⟩ := and3' h; exact Or.inr (Or.inr (Or.inr (Or.inr (Or.inr (Or.inl ⟨e1, e2, Or.inl ⟨e3, (b5 e1 e2).1 e3⟩⟩)))))
  · obtain ⟨e1, e2, e3⟩ := and3' h; exact Or.inr (Or.inr (Or.inr (Or.inr (Or.inr (Or.inl ⟨e1, e2, Or.inr (Or.inl ⟨e3, (b5 e1 e2).2.1 e3⟩)⟩)))))
  · obtain ⟨e1, e2, e3⟩ := and3' h; exact Or.inr (Or.inr (Or.inr (Or.inr (Or.inr (Or.inl ⟨e1, e2, Or.inr (Or.inr (Or.inl ⟨e3, (b5 e1 e2).2.2.1 e3⟩))⟩)))))
  · obtain ⟨e1, e2, e3⟩ := and3' h; exact Or.inr (Or.inr (Or.inr (Or.inr (Or.inr (Or.inl ⟨e1, e2, Or.inr (Or.inr (Or.inr ⟨e3, (b5 e1 e2).2.2.2 e3⟩))⟩)))))
  · rw [Bool.and_eq_true] at h
    have e1 := Nat.le_of_ble_eq_true h.1
    have e2 := Nat.eq_of_beq_eq_true h.2
    exact Or.inr (Or.inr (Or.inr (Or.inr (Or.inr (Or.inr ⟨e1, e2, b6 e1 e2⟩)))))
def lwo (g : Nat → Nat → Int) : Int → Int := fun k => g 591 k.toNat
theorem fty_32 (i : Nat) : fty 32 i = allT i := rfl
theorem gv_591 {H : PH} (i : Int) : gv H 591 i = H 591 i := gv_none (zrt_row (c := 591) (by decide) (by decide +kernel))
theorem WT_row {lv : Nat} {g : Nat → Nat → Int} {H : PH} (hW : WT lv g H) {k : Int} (h0 : 0 ≤ k) (h1 : k < 1124) : aval (allT k.toNat) ((allT k.toNat).1, H 591 k) ∧ (fz lv 32 k.toNat = true → H 591 k = g 591 k.toNat) := by
  have e : ((k.toNat : Nat) : Int) = k := by omega
  have q := hW 591 k.toNat (by decide) (by rw [sh_591']; omega)
  rw [show tau 591 = 32 from rfl, fty_32, e] at q
  have e2 : gv H ((591 : Nat) : Int) k = H 591 k := gv_591 k
  rw [e2] at q
  exact q
theorem WT_mA {lv : Nat} {g : Nat → Nat → Int} {H : PH} (hW : WT lv g H) (hlv : lv ≤ 1) : mA (lwo g) H := by
  intro k h0 h1
  obtain ⟨q1, q2⟩ := WT_row hW h0 h1
  obtain ⟨b0, b1, b2, b4, b5, b6⟩ := allT_b k.toNat (by omega)
  have rd : ∀ {lo hi : Int}, allT k.toNat = (0, lo, hi, 1) → lo ≤ H 591 k ∧ H 591 k ≤ hi := fun e => by
    rw [e] at q1
    exact ⟨(q1.2.1 rfl).1, (q1.2.1 rfl).2.1⟩
  refine ⟨fun e => rd (b0 (by omega)), fun e => rd (b1 (by omega)), fun e => rd (b2 (by omega)), fun e => (rd (b4 (by omega))).2, fun e1 e2 => ?_, fun e1 e2 => ?_, fun e1 e2 e3 => rd (b6 (by omega) (by omega))⟩
  · have := fz_law (lv := lv) (k := k.toNat) hlv (by omega) (by omega)
    exact q2 this
  · obtain ⟨c1, c2, c3, c4⟩ := b5 (by omega) (by omega)
    exact ⟨fun e => rd (c1 (by omega)), fun e => rd (c2 (by omega)), fun e => rd (c3 (by omega)), fun e => rd (c4 (by omega))⟩
theorem mT_aval {lw : Int → Int} {k x : Int} (h0 : 0 ≤ k) (h1 : k < 1124) (hm : mT lw k x) (hx : zIn x) : aval (allT k.toNat) ((allT k.toNat).1, x) := by
  have hx1 := hx.1
  have hx2 := hx.2
  obtain ⟨m0, m1, m2, m4, m5, m6, m7⟩ := hm
  have mk : ∀ {lo hi : Int}, allT k.toNat = (0, lo, hi, 1) → lo ≤ x → x ≤ hi → aval (allT k.toNat) ((allT k.toNat).1, x) := fun e a b => by
    rw [e]
    exact vin a b
  rcases allT_c k.toNat (by omega) with e | ⟨a, e⟩ | ⟨a, e⟩ | ⟨a, e⟩ | ⟨a, e⟩ | ⟨a, b, c⟩ | ⟨a, b, e⟩
  · rw [e]
    exact aval_top hx
  · have := m0 (by omega); exact mk e this.1 this.2
  · have := m1 (by omega); exact mk e this.1 this.2
  · have := m2 (by omega); exact mk e this.1 this.2
  · have := m4 (by omega); exact mk e hx1 this
  · obtain ⟨n1, n2, n3, n4⟩ := m6 (by omega) (by omega)
    rcases c with ⟨d, e⟩ | ⟨d, e⟩ | ⟨d, e⟩ | ⟨d, e⟩
    · have := n1 (by omega); exact mk e this.1 this.2
    · have := n2 (by omega); exact mk e this.1 this.2
    · have := n3 (by omega); exact mk e this.1 this.2
    · have := n4 (by omega); exact mk e this.1 this.2
  · have := m7 (by omega) (by omega) (by omega); exact mk e this.1 this.2
theorem HIN_591 {H : PH} (h : HIN H) {k : Int} (h0 : 0 ≤ k) (h1 : k < 1124) : zIn (H 591 k) := by
  have e : ((k.toNat : Nat) : Int) = k := by omega
  have := h 591 k.toNat (by decide) (by rw [sh_591']; omega) (Or.inl (by unfold zrow; decide +kernel))
  rw [e] at this
  exact this
/-- places of the model that a reader changes: at, faultPlace, number -/
theorem WT_mF {lv : Nat} {g : Nat → Nat → Int} {H H' : PH} {L F : List Int} (hW : WT lv g H) (hlv : lv ≤ 1) (hF : mF L F H H') (hL : L = [] ∨ L = [591]) (hFF : ∀ x ∈ F, x = 5 ∨ x = 6 ∨ x = 7) (hA : mA (lwo g) H') (hI : HIN H') (ha : 0 ≤ H' 590 5 ∧ H' 590 5 ≤ 600) : WT lv g H' := by
  intro c i h1 h2
  by_cases e1 : c = 591
  · subst e1
    have hi : i < 1124 := by rw [← sh_591']; exact h2
    have m := hA i (by omega) (by omega)
    have e : (((i : Nat) : Int)).toNat = i := by omega
    rw [show tau 591 = 32 from rfl, fty_32, show gv H' ((591 : Nat) : Int) (i : Int) = H' 591 i from gv_591 _]
    refine ⟨?_, fun q => ?_⟩
    · have := mT_aval (k := (i : Int)) (by omega) (by omega) m (HIN_591 hI (by omega) (by omega))
      rw [e] at this
      exact this
    · by_cases z : 10 ≤ i ∧ i < 76
      · have := m.2.2.2.2.1 (by omega) (by omega)
        rw [this]
        unfold lwo
        rw [e]
      · exfalso
        revert q
        unfold fz
        have z1 : (Nat.ble 10 i && Nat.blt i 76) = false := by
          cases hb : (Nat.ble 10 i && Nat.blt i 76) with
          | false => rfl
          | true =>
            rw [Bool.and_eq_true] at hb
            exact (z ⟨Nat.le_of_ble_eq_true hb.1, Nat.blt_eq.mp hb.2⟩).elim
        rw [show Nat.beq 32 32 = true from rfl, Bool.true_and, z1]
        cases Nat.ble lv 1 <;> cases Nat.beq lv 0 <;> exact fun q => Bool.noConfusion (show false = true from q)
  · by_cases e2 : c = 590 ∧ (i = 5 ∨ i = 6 ∨ i = 7)
    · obtain ⟨rfl, e3⟩ := e2
      rcases e3 with rfl | rfl | rfl
      · exact ⟨vin ha.1 ha.2, fun q => by rw [show tau 590 = 12 from rfl, fz_no (lv := lv) (t := 12) (i := 5) rfl] at q; cases q⟩
      · exact ⟨aval_top (hI 590 6 (by decide) (by decide +kernel) (Or.inr rfl)), fun q => by rw [show tau 590 = 12 from rfl, fz_no (lv := lv) (t := 12) (i := 6) rfl] at q; cases q⟩
      · exact ⟨aval_top (hI 590 7 (by decide) (by decide +kernel) (Or.inr rfl)), fun q => by rw [show tau 590 = 12 from rfl, fz_no (lv := lv) (t := 12) (i := 7) rfl] at q; cases q⟩
    · have e : gv H' c i = gv H c i := by
        have e4 : H' c i = H c i := hF c i (by rcases hL with rfl | rfl <;> simp <;> omega) (fun q r => by
          have := hFF _ r
          omega)
        unfold gv
        split
        · rfl
        · exact e4
      rw [e]
      exact hW c i h1 h2
theorem frm_mF {H H' : PH} {L F : List Int} {md : List Nat} (hF : mF L F H H') (hL : L = [] ∨ (L = [591] ∧ inmdT md 32 = true)) (hm : inmdT md 12 = true ∨ ∀ y ∈ F, inmd md 12 y = true) : frm md H H' := by
  intro c y _ q
  have e4 : H' c y = H c y := hF c y (by
    rcases hL with rfl | ⟨rfl, h⟩
    · simp
    · simp
      intro e
      have e : c = 591 := by omega
      rw [e, show tau 591 = 32 from rfl, inmd_T h] at q
      cases q) (fun e r => by
    have e : c = 590 := by omega
    rcases hm with hm | hm
    · rw [e, show tau 590 = 12 from rfl, inmd_T hm] at q
      cases q
    · rw [e, show tau 590 = 12 from rfl, hm y r] at q
      cases q)
  unfold gv
  split
  · rfl
  · exact e4
theorem fokf {H : PH} {c i : Nat} {lo hi : Int} (hz : zrt c i = none) (h1 : lo ≤ H c i) (h2 : H c i ≤ hi) : fok [] H ((2, c, i), lo, hi) := by
  intro x hx
  have hx : gv H c i = x := hx
  rw [gv_none (by rw [Int.toNat_natCast, Int.toNat_natCast]; exact hz)] at hx
  rw [← hx]
  exact ⟨h1, h2⟩
theorem fin_hf {lv : Nat} {g : Nat → Nat → Int} {H H' : PH} {a : Option aV} {r : Option pv} {md : List Nat} {as : List pv} {k : aK} (hW : WT lv g H') (hr : rok a r) (hf : frm md H H') (hk : ∀ x, r = some (0, x) → k.1 ≤ x → x ≤ k.2.1 → fok [] H' k.2.2) : WT lv g H' ∧ rok a r ∧ (∀ x', r = some (0, x') → ∀ f ∈ ([] : List (Int × Int × Nat × Int × Int)), f.1 ≤ x' → x' ≤ f.2.1 → ∀ y, as[f.2.2.1]? = some (0, y) → f.2.2.2.1 ≤ y ∧ y ≤ f.2.2.2.2) ∧ frm md H H' ∧ (∀ x', r = some (0, x') → ∀ f ∈ [k], f.1 ≤ x' → x' ≤ f.2.1 → fok [] H' f.2.2) ∧ ∀ f ∈ ([] : List aF), fok [] H' f :=
  ⟨hW, hr, fun _ _ f hf => (by cases hf), hf, fun x e f hf a b => (by rcases List.mem_cons.mp hf with rfl | q; exact hk x e a b; cases q), fun f hf => (by cases hf)⟩
