theorem gf_8_1 : gfOK 8 1 = true := by decide +kernel
theorem gf_8_2 : gfOK 8 2 = true := by decide +kernel
theorem gf_8_3 : gfOK 8 3 = true := by decide +kernel
theorem pf_1_2 : pfOK 1 2 = true := by decide +kernel
theorem pf_1_4 : pfOK 1 4 = true := by decide +kernel
theorem pf_8_3 : pfOK 8 3 = true := by decide +kernel
def xm_X8_setCost : List xbT := [(0, vb_X8_setCost_0, none)]
theorem xc_X8_setCost : xOK kd_X8_setCost xm_X8_setCost := ⟨ve_X8_setCost_0, trivial⟩
theorem xa_X8_setCost : xm_X8_setCost.all (fun q => aOKb q.2.1 && !q.2.1.isEmpty) = true := by decide +kernel
theorem xw_X8_setCost_0 {E : xE} {res : xR} {N : Nat} {hd : List Nat} {C : xCT} {k : Nat} {L : List Int} {st : List pv} {H : PH} : xW E res N kd_X8_setCost xm_X8_setCost hd C (k + 1) 0 L st H = xB (fun t L st H => if t ∈ hd then xJ E res N kd_X8_setCost t L st H else xW E res N kd_X8_setCost xm_X8_setCost hd C k t L st H) (REPR E res) C (none) vb_X8_setCost_0 0 L st H := Eq.trans rfl rfl
def xm_X8_addCouple : List xbT := [(0, vb_X8_addCouple_0, some 46), (46, vb_X8_addCouple_46, none)]
theorem xc_X8_addCouple : xOK kd_X8_addCouple xm_X8_addCouple := ⟨ve_X8_addCouple_0, ve_X8_addCouple_46, trivial⟩
theorem xa_X8_addCouple : xm_X8_addCouple.all (fun q => aOKb q.2.1 && !q.2.1.isEmpty) = true := by decide +kernel
theorem xw_X8_addCouple_0 {E : xE} {res : xR} {N : Nat} {hd : List Nat} {C : xCT} {k : Nat} {L : List Int} {st : List pv} {H : PH} : xW E res N kd_X8_addCouple xm_X8_addCouple hd C (k + 1) 0 L st H = xB (fun t L st H => if t ∈ hd then xJ E res N kd_X8_addCouple t L st H else xW E res N kd_X8_addCouple xm_X8_addCouple hd C k t L st H) (REPR E res) C (some 46) vb_X8_addCouple_0 0 L st H := Eq.trans rfl rfl
theorem xw_X8_addCouple_46 {E : xE} {res : xR} {N : Nat} {hd : List Nat} {C : xCT} {k : Nat} {L : List Int} {st : List pv} {H : PH} : xW E res N kd_X8_addCouple xm_X8_addCouple hd C (k + 1) 46 L st H = xB (fun t L st H => if t ∈ hd then xJ E res N kd_X8_addCouple t L st H else xW E res N kd_X8_addCouple xm_X8_addCouple hd C k t L st H) (REPR E res) C (none) vb_X8_addCouple_46 46 L st H := Eq.trans rfl rfl
def xm_X8_cutCouples : List xbT := [(0, vb_X8_cutCouples_0, some 6), (6, vb_X8_cutCouples_6, some 37), (37, vb_X8_cutCouples_37, none)]
theorem xc_X8_cutCouples : xOK kd_X8_cutCouples xm_X8_cutCouples := ⟨ve_X8_cutCouples_0, ve_X8_cutCouples_6, ve_X8_cutCouples_37, trivial⟩
theorem xa_X8_cutCouples : xm_X8_cutCouples.all (fun q => aOKb q.2.1 && !q.2.1.isEmpty) = true := by decide +kernel
theorem xw_X8_cutCouples_0 {E : xE} {res : xR} {N : Nat} {hd : List Nat} {C : xCT} {k : Nat} {L : List Int} {st : List pv} {H : PH} : xW E res N kd_X8_cutCouples xm_X8_cutCouples hd C (k + 1) 0 L st H = xB (fun t L st H => if t ∈ hd then xJ E res N kd_X8_cutCouples t L st H else xW E res N kd_X8_cutCouples xm_X8_cutCouples hd C k t L st H) (REPR E res) C (some 6) vb_X8_cutCouples_0 0 L st H := Eq.trans rfl rfl
theorem xw_X8_cutCouples_6 {E : xE} {res : xR} {N : Nat} {hd : List Nat} {C : xCT} {k : Nat} {L : List Int} {st : List pv} {H : PH} : xW E res N kd_X8_cutCouples xm_X8_cutCouples hd C (k + 1) 6 L st H = xB (fun t L st H => if t ∈ hd then xJ E res N kd_X8_cutCouples t L st H else xW E res N kd_X8_cutCouples xm_X8_cutCouples hd C k t L st H) (REPR E res) C (some 37) vb_X8_cutCouples_6 6 L st H := Eq.trans rfl rfl
theorem xw_X8_cutCouples_37 {E : xE} {res : xR} {N : Nat} {hd : List Nat} {C : xCT} {k : Nat} {L : List Int} {st : List pv} {H : PH} : xW E res N kd_X8_cutCouples xm_X8_cutCouples hd C (k + 1) 37 L st H = xB (fun t L st H => if t ∈ hd then xJ E res N kd_X8_cutCouples t L st H else xW E res N kd_X8_cutCouples xm_X8_cutCouples hd C k t L st H) (REPR E res) C (none) vb_X8_cutCouples_37 37 L st H := Eq.trans rfl rfl
def xm_X1_keepMeasured : List xbT := [(0, vb_X1_keepMeasured_0, some 2), (2, vb_X1_keepMeasured_2, some 38), (38, vb_X1_keepMeasured_38, none)]
theorem xc_X1_keepMeasured : xOK kd_X1_keepMeasured xm_X1_keepMeasured := ⟨ve_X1_keepMeasured_0, ve_X1_keepMeasured_2, ve_X1_keepMeasured_38, trivial⟩
theorem xa_X1_keepMeasured : xm_X1_keepMeasured.all (fun q => aOKb q.2.1 && !q.2.1.isEmpty) = true := by decide +kernel
theorem xw_X1_keepMeasured_0 {E : xE} {res : xR} {N : Nat} {hd : List Nat} {C : xCT} {k : Nat} {L : List Int} {st : List pv} {H : PH} : xW E res N kd_X1_keepMeasured xm_X1_keepMeasured hd C (k + 1) 0 L st H = xB (fun t L st H => if t ∈ hd then xJ E res N kd_X1_keepMeasured t L st H else xW E res N kd_X1_keepMeasured xm_X1_keepMeasured hd C k t L st H) (REPR E res) C (some 2) vb_X1_keepMeasured_0 0 L st H := Eq.trans rfl rfl
theorem xw_X1_keepMeasured_2 {E : xE} {res : xR} {N : Nat} {hd : List Nat} {C : xCT} {k : Nat} {L : List Int} {st : List pv} {H : PH} : xW E res N kd_X1_keepMeasured xm_X1_keepMeasured hd C (k + 1) 2 L st H = xB (fun t L st H => if t ∈ hd then xJ E res N kd_X1_keepMeasured t L st H else xW E res N kd_X1_keepMeasured xm_X1_keepMeasured hd C k t L st H) (REPR E res) C (some 38) vb_X1_keepMeasured_2 2 L st H := Eq.trans rfl rfl
theorem xw_X1_keepMeasured_38 {E : xE} {res : xR} {N : Nat} {hd : List Nat} {C : xCT} {k : Nat} {L : List Int} {st : List pv} {H : PH} : xW E res N kd_X1_keepMeasured xm_X1_keepMeasured hd C (k + 1) 38 L st H = xB (fun t L st H => if t ∈ hd then xJ E res N kd_X1_keepMeasured t L st H else xW E res N kd_X1_keepMeasured xm_X1_keepMeasured hd C k t L st H) (REPR E res) C (none) vb_X1_keepMeasured_38 38 L st H := Eq.trans rfl rfl
def xm_X1_cutTo : List xbT := [(0, vb_X1_cutTo_0, some 15), (15, vb_X1_cutTo_15, some 16), (16, vb_X1_cutTo_16, some 46), (46, vb_X1_cutTo_46, some 47), (47, vb_X1_cutTo_47, none)]
theorem xc_X1_cutTo : xOK kd_X1_cutTo xm_X1_cutTo := ⟨ve_X1_cutTo_0, ve_X1_cutTo_15, ve_X1_cutTo_16, ve_X1_cutTo_46, ve_X1_cutTo_47, trivial⟩
theorem xa_X1_cutTo : xm_X1_cutTo.all (fun q => aOKb q.2.1 && !q.2.1.isEmpty) = true := by decide +kernel
theorem xw_X1_cutTo_0 {E : xE} {res : xR} {N : Nat} {hd : List Nat} {C : xCT} {k : Nat} {L : List Int} {st : List pv} {H : PH} : xW E res N kd_X1_cutTo xm_X1_cutTo hd C (k + 1) 0 L st H = xB (fun t L st H => if t ∈ hd then xJ E res N kd_X1_cutTo t L st H else xW E res N kd_X1_cutTo xm_X1_cutTo hd C k t L st H) (REPR E res) C (some 15) vb_X1_cutTo_0 0 L st H := Eq.trans rfl rfl
theorem xw_X1_cutTo_15 {E : xE} {res : xR} {N : Nat} {hd : List Nat} {C : xCT} {k : Nat} {L : List Int} {st : List pv} {H : PH} : xW E res N kd_X1_cutTo xm_X1_cutTo hd C (k + 1) 15 L st H = xB (fun t L st H => if t ∈ hd then xJ E res N kd_X1_cutTo t L st H else xW E res N kd_X1_cutTo xm_X1_cutTo hd C k t L st H) (REPR E res) C (some 16) vb_X1_cutTo_15 15 L st H := Eq.trans rfl rfl
theorem xw_X1_cutTo_16 {E : xE} {res : xR} {N : Nat} {hd : List Nat} {C : xCT} {k : Nat} {L : List Int} {st : List pv} {H : PH} : xW E res N kd_X1_cutTo xm_X1_cutTo hd C (k + 1) 16 L st H = xB (fun t L st H => if t ∈ hd then xJ E res N kd_X1_cutTo t L st H else xW E res N kd_X1_cutTo xm_X1_cutTo hd C k t L st H) (REPR E res) C (some 46) vb_X1_cutTo_16 16 L st H := Eq.trans rfl rfl
theorem xw_X1_cutTo_46 {E : xE} {res : xR} {N : Nat} {hd : List Nat} {C : xCT} {k : Nat} {L : List Int} {st : List pv} {H : PH} : xW E res N kd_X1_cutTo xm_X1_cutTo hd C (k + 1) 46 L st H = xB (fun t L st H => if t ∈ hd then xJ E res N kd_X1_cutTo t L st H else xW E res N kd_X1_cutTo xm_X1_cutTo hd C k t L st H) (REPR E res) C (some 47) vb_X1_cutTo_46 46 L st H := Eq.trans rfl rfl
theorem xw_X1_cutTo_47 {E : xE} {res : xR} {N : Nat} {hd : List Nat} {C : xCT} {k : Nat} {L : List Int} {st : List pv} {H : PH} : xW E res N kd_X1_cutTo xm_X1_cutTo hd C (k + 1) 47 L st H = xB (fun t L st H => if t ∈ hd then xJ E res N kd_X1_cutTo t L st H else xW E res N kd_X1_cutTo xm_X1_cutTo hd C k t L st H) (REPR E res) C (none) vb_X1_cutTo_47 47 L st H := Eq.trans rfl rfl
/-! rows that tell the same -/
def EB (A B : Int → Int) (x : Int) : Prop := A x = B x ∧ (∀ i, 0 ≤ i → i < A x → A (x + 1 + i) = B (x + 1 + i)) ∧ A (x + 9) = B (x + 9) ∧ A (x + 10) = B (x + 10) ∧ A (x + 11) = B (x + 11) ∧ A (x + 12) = B (x + 12) ∧ A (x + 13) = B (x + 13) ∧ ∀ i, 0 ≤ i → i < A (x + 13) → A (x + 14 + 2 * i) = B (x + 14 + 2 * i) ∧ A (x + 14 + 2 * i + 1) = B (x + 14 + 2 * i + 1)
def EL (A B : Int → Int) (x : Int) : Prop := A x = B x ∧ A (x + 1) = B (x + 1) ∧ A (x + 2) = B (x + 2) ∧ A (x + 3) = B (x + 3) ∧ ∀ i, 0 ≤ i → i < A (x + 3) → A (x + 4 + i) = B (x + 4 + i)
def REq (A B : Int → Int) : Prop := (∀ i, 0 ≤ i → i < 12 → A i = B i) ∧ (∀ i, 0 ≤ i → i < A 1 → A (76 + 2 * i) = B (76 + 2 * i) ∧ A (76 + 2 * i + 1) = B (76 + 2 * i + 1)) ∧ (∀ b, 0 ≤ b → b < A 0 → EB A B (92 + 26 * b)) ∧ (∀ k, 0 ≤ k → k < A 2 → EL A B (404 + 12 * k)) ∧ ∀ k, 0 ≤ k → k < A 11 → A (12 + k) = B (12 + k)
theorem REq_refl (A : Int → Int) : REq A A := ⟨fun _ _ _ => rfl, fun _ _ _ => ⟨rfl, rfl⟩, fun _ _ _ => ⟨rfl, fun _ _ _ => rfl, rfl, rfl, rfl, rfl, rfl, fun _ _ _ => ⟨rfl, rfl⟩⟩, fun _ _ _ => ⟨rfl, rfl, rfl, rfl, fun _ _ _ => rfl⟩, fun _ _ _ => rfl⟩
theorem EB_symm {A B : Int → Int} {x : Int} (h : EB A B x) : EB B A x := by
  obtain ⟨h0, h1, h2, h3, h4, h5, h6, h7⟩ := h
  exact ⟨h0.symm, fun i i0 i1 => (h1 i i0 (by omega)).symm, h2.symm, h3.symm, h4.symm, h5.symm, h6.symm, fun i i0 i1 => ⟨(h7 i i0 (by omega)).1.symm, (h7 i i0 (by omega)).2.symm⟩⟩
theorem EL_symm {A B : Int → Int} {x : Int} (h : EL A B x) : EL B A x := by
  obtain ⟨h0, h1, h2, h3, h4⟩ := h
  exact ⟨h0.symm, h1.symm, h2.symm, h3.symm, fun i i0 i1 => (h4 i i0 (by omega)).symm⟩
theorem REq_symm {A B : Int → Int} (h : REq A B) : REq B A := by
  obtain ⟨h0, h1, h2, h3, h4⟩ := h
  have e0 := h0 0 (by decide) (by decide)
  have e1 := h0 1 (by decide) (by decide)
  have e2 := h0 2 (by decide) (by decide)
  have e11 := h0 11 (by decide) (by decide)
  exact ⟨fun i i0 i1 => (h0 i i0 i1).symm, fun i i0 i1 => ⟨(h1 i i0 (by omega)).1.symm, (h1 i i0 (by omega)).2.symm⟩, fun b b0 b1 => EB_symm (h2 b b0 (by omega)), fun k k0 k1 => EL_symm (h3 k k0 (by omega)), fun k k0 k1 => (h4 k k0 (by omega)).symm⟩
theorem lkA_EQ {A B : Int → Int} {x y : Int} : ∀ (n : Nat) (i : Int), (∀ j, i ≤ j → j < i + n → A (76 + 2 * j) = B (76 + 2 * j) ∧ A (76 + 2 * j + 1) = B (76 + 2 * j + 1)) → lkA A x y n i = lkA B x y n i
  | 0, _, _ => rfl
  | n + 1, i, h => by
    obtain ⟨e1, e2⟩ := h i (Int.le_refl _) (by omega)
    unfold lkA
    rw [e1, e2, lkA_EQ n (i + 1) (fun j a b => h j (by omega) (by omega))]
theorem chA_EQ {A B : Int → Int} (h : REq A B) (x y : Int) : chA A x y = chA B x y := by
  have e : likA A x y = likA B x y := by
    unfold likA
    rw [← h.1 1 (by decide) (by decide)]
    exact lkA_EQ _ 0 (fun j a b => h.2.1 j a (by omega))
  unfold chA
  rw [e]
theorem VM_congr {m n n' : Int} {f g : Int → Int} (h : VM m n f) (e : n = n') (hf : ∀ i, 0 ≤ i → i < n → f i = g i) : VM m n' g := by
  subst e
  exact ⟨h.1, h.2.1, fun i i0 i1 => ⟨(h.2.2.1 i i0 i1).1, (h.2.2.1 i i0 i1).2.1, (hf i i0 i1).symm.trans (h.2.2.1 i i0 i1).2.2⟩, h.2.2.2⟩
theorem apB_EQ {A B : Int → Int} (h : ∀ x y, chA A x y = chA B x y) {l s l' s' b : Int} (hm : 0 ≤ A (92 + 26 * b)) (hb : EB A B (92 + 26 * b)) (el : A l = B l') (es : ∀ i, 0 ≤ i → i < A l → A (s + i) = B (s' + i)) : apB A l s b = apB B l' s' b := by
  unfold apB apA
  rw [← el, ← hb.1]
  refine apF_eq hm (fun y x y0 y1 x0 x1 => ?_)
  rw [es y y0 y1, hb.2.1 x x0 x1, h]
theorem lapA_EQ {A B : Int → Int} (h : ∀ x y, chA A x y = chA B x y) {k b : Int} (hm : 0 ≤ A (92 + 26 * b)) (hb : EB A B (92 + 26 * b)) (hk : EL A B (404 + 12 * k)) : lapA A k b = lapA B k b := apB_EQ h hm hb hk.2.2.2.1 hk.2.2.2.2
theorem BRr_EQ {c x : Int} {H : PH} {A B : Int → Int} (h : BRr c H A x) (e : EB A B x) : BRr c H B x := by
  obtain ⟨h0, h1, h2, h3, h4, h5, h6⟩ := h
  obtain ⟨e0, e1, e2, e3, e4, e5, e6, e7⟩ := e
  exact ⟨VM_congr h0 e0 e1, e2.symm.trans h1, e3.symm.trans h2, e4.symm.trans h3, e5.symm.trans h4, e6.symm.trans h5, fun i i0 i1 => ⟨(e7 i i0 (by omega)).1.symm.trans (h6 i i0 i1).1, (e7 i i0 (by omega)).2.symm.trans (h6 i i0 i1).2⟩⟩
theorem LNr_EQ {q x : Int} {H : PH} {A B : Int → Int} (h : LNr q H A x) (e : EL A B x) : LNr q H B x := by
  obtain ⟨h0, h1, h2, h3⟩ := h
  obtain ⟨e0, e1, e2, e3, e4⟩ := e
  exact ⟨e0.symm.trans h0, e1.symm.trans h1, e2.symm.trans h2, VM_congr h3 e3 e4⟩
theorem CR_EQ {H : PH} {A B : Int → Int} (h : CR H A) (e : REq A B) : CR H B := by
  obtain ⟨a, b, c, d, f⟩ := h
  obtain ⟨q0, q1, q2, q3, q4⟩ := id e
  refine ⟨?_, fun x x0 x1 => ?_, fun k k0 k1 => ?_, fun x y x0 x1 y0 y1 => ?_, ?_⟩
  · simp only [← q0 0 (by decide) (by decide), ← q0 1 (by decide) (by decide), ← q0 2 (by decide) (by decide), ← q0 3 (by decide) (by decide), ← q0 4 (by decide) (by decide), ← q0 5 (by decide) (by decide), ← q0 6 (by decide) (by decide), ← q0 7 (by decide) (by decide), ← q0 8 (by decide) (by decide), ← q0 9 (by decide) (by decide)]
    exact a
  · rw [← q0 0 (by decide) (by decide)] at x1
    exact BRr_EQ (b x x0 x1) (q2 x x0 x1)
  · rw [← q0 2 (by decide) (by decide)] at k1
    exact LNr_EQ (c k k0 k1) (q3 k k0 k1)
  · rw [d x y x0 x1 y0 y1]
    exact chA_EQ e _ _
  · obtain ⟨f0, f1, f2, f3⟩ := f
    exact ⟨f0, (q0 10 (by decide) (by decide)).symm.trans f1, (q0 11 (by decide) (by decide)).symm.trans f2, fun k k0 k1 => ⟨(f3 k k0 k1).1, (q4 k k0 (by omega)).symm.trans (f3 k k0 k1).2⟩⟩
theorem CI_EQ {H : PH} {A B : Int → Int} (h : CI H A) (e : REq A B) : CI H B := by
  obtain ⟨a, b, c⟩ := h
  have e0 := e.1 0 (by decide) (by decide)
  have e2 := e.1 2 (by decide) (by decide)
  refine ⟨CR_EQ a e, fun k k0 k1 => ?_, c⟩
  obtain ⟨g0, g1⟩ := b k k0 (by omega)
  refine ⟨by omega, fun x x0 x1 x2 => ?_⟩
  rw [g1 x x0 x1 (by omega)]
  have hb := a.2.1 x x0 (by omega)
  exact lapA_EQ (chA_EQ e) (by have := hb.1.2.1; omega) (e.2.2.1 x x0 (by omega)) (e.2.2.2.1 k k0 (by omega))
/-! couples -/
theorem lkA_iff {A : Int → Int} {x y : Int} : ∀ (n : Nat) (i : Int), lkA A x y n i = true ↔ ∃ j, i ≤ j ∧ j < i + n ∧ ((A (76 + 2 * j) = x ∧ A (76 + 2 * j + 1) = y) ∨ (A (76 + 2 * j) = y ∧ A (76 + 2 * j + 1) = x))
  | 0, i => by
    constructor
    · intro h
      cases h
    · rintro ⟨j, h1, h2, _⟩
      omega
  | n + 1, i => by
    by_cases c : (A (76 + 2 * i) = x ∧ A (76 + 2 * i + 1) = y) ∨ (A (76 + 2 * i) = y ∧ A (76 + 2 * i + 1) = x)
    · rw [lkA_t c]
      exact ⟨fun _ => ⟨i, Int.le_refl _, by omega, c⟩, fun _ => rfl⟩
    · rw [lkA_f c, lkA_iff n (i + 1)]
      constructor
      · rintro ⟨j, h1, h2, h3⟩
        exact ⟨j, by omega, by omega, h3⟩
      · rintro ⟨j, h1, h2, h3⟩
        refine ⟨j, ?_, by omega, h3⟩
        by_cases e : j = i
        · rw [e] at h3
          exact (c h3).elim
        · omega
/-- signs that the class's couple j makes like -/
def mtC (H : PH) (j a b : Int) : Prop := (H 42 j = a ∧ H 43 j = b) ∨ (H 42 j = b ∧ H 43 j = a)
/-- the class's couples and the row's -/
def CPr (H : PH) (A : Int → Int) : Prop := (∀ j, 0 ≤ j → j < A 1 → (1 ≤ H 42 j ∧ H 42 j ≤ 36) ∧ (1 ≤ H 43 j ∧ H 43 j ≤ 36) ∧ ¬ H 42 j = H 43 j ∧ A (76 + 2 * j) = ocF (H 42 j) ∧ A (76 + 2 * j + 1) = ocF (H 43 j)) ∧ ∀ i j, 0 ≤ i → i < A 1 → 0 ≤ j → j < A 1 → mtC H i (H 42 j) (H 43 j) → i = j
/-- the costs, by what is like -/
def TBq (P : Int → Int → Prop) (H : PH) : Prop := ∀ a b, 1 ≤ a → a ≤ 37 → 1 ≤ b → b ≤ 37 → (a = b → H (4 + a) b = 0) ∧ (¬ a = b → (a = 37 ∨ b = 37 ∨ P a b) → H (4 + a) b = 1) ∧ (¬ a = b → ¬ (a = 37 ∨ b = 37 ∨ P a b) → H (4 + a) b = 3)
theorem TBq_iff {P : Int → Int → Prop} {H : PH} {A : Int → Int} (hP : ∀ a b, 1 ≤ a → a ≤ 36 → 1 ≤ b → b ≤ 36 → (P a b ↔ likA A (ocF a) (ocF b) = true)) : TBq P H ↔ ∀ a b, 1 ≤ a → a ≤ 37 → 1 ≤ b → b ≤ 37 → H (4 + a) b = chA A (ocF a) (ocF b) := by
  have k : ∀ a, 1 ≤ a → a ≤ 37 → (ocF a = 46 ↔ a = 37) := fun a a0 a1 => by
    unfold ocF
    omega
  constructor
  · intro h a b a0 a1 b0 b1
    obtain ⟨h1, h2, h3⟩ := h a b a0 a1 b0 b1
    unfold chA
    by_cases e : a = b
    · rw [if_pos (by rw [e]), h1 e]
    · rw [if_neg (fun q => e (ocF_inj ⟨a0, a1⟩ ⟨b0, b1⟩ q))]
      by_cases p : a = 37 ∨ b = 37 ∨ P a b
      · rw [h2 e p, if_pos]
        rcases p with p | p | p
        · exact Or.inl ((k a a0 a1).mpr p)
        · exact Or.inr (Or.inl ((k b b0 b1).mpr p))
        · by_cases a7 : a = 37
          · exact Or.inl ((k a a0 a1).mpr a7)
          · by_cases b7 : b = 37
            · exact Or.inr (Or.inl ((k b b0 b1).mpr b7))
            · exact Or.inr (Or.inr ((hP a b a0 (by omega) b0 (by omega)).mp p))
      · rw [h3 e p, if_neg]
        rintro (q | q | q)
        · exact p (Or.inl ((k a a0 a1).mp q))
        · exact p (Or.inr (Or.inl ((k b b0 b1).mp q)))
        · exact p (Or.inr (Or.inr ((hP a b a0 (by have := fun e => p (Or.inl e); omega) b0 (by have := fun e => p (Or.inr (Or.inl e)); omega)).mpr q)))
  · intro h a b a0 a1 b0 b1
    rw [h a b a0 a1 b0 b1]
    unfold chA
    refine ⟨fun e => if_pos (by rw [e]), fun e p => ?_, fun e p => ?_⟩
    · rw [if_neg (fun q => e (ocF_inj ⟨a0, a1⟩ ⟨b0, b1⟩ q)), if_pos]
      rcases p with p | p | p
      · exact Or.inl ((k a a0 a1).mpr p)
      · exact Or.inr (Or.inl ((k b b0 b1).mpr p))
      · by_cases a7 : a = 37
        · exact Or.inl ((k a a0 a1).mpr a7)
        · by_cases b7 : b = 37
          · exact Or.inr (Or.inl ((k b b0 b1).mpr b7))
          · exact Or.inr (Or.inr ((hP a b a0 (by omega) b0 (by omega)).mp p))
    · rw [if_neg (fun q => e (ocF_inj ⟨a0, a1⟩ ⟨b0, b1⟩ q)), if_neg]
      rintro (q | q | q)
      · exact p (Or.inl ((k a a0 a1).mp q))
      · exact p (Or.inr (Or.inl ((k b b0 b1).mp q)))
      · exact p (Or.inr (Or.inr ((hP a b a0 (by have := fun e => p (Or.inl e); omega) b0 (by have := fun e => p (Or.inr (Or.inl e)); omega)).mpr q)))
/-- like by a couple of the first n -/
def lkC (H : PH) (n a b : Int) : Prop := ∃ j, 0 ≤ j ∧ j < n ∧ mtC H j a b
theorem lkC_iff {H : PH} {A : Int → Int} (h1 : 0 ≤ A 1) (h : CPr H A) : ∀ a b, 1 ≤ a → a ≤ 36 → 1 ≤ b → b ≤ 36 → (lkC H (A 1) a b ↔ likA A (ocF a) (ocF b) = true) := by
  intro a b a0 a1 b0 b1
  unfold likA
  rw [lkA_iff]
  constructor
  · rintro ⟨j, j0, j1, c⟩
    obtain ⟨_, _, _, e1, e2⟩ := h.1 j j0 j1
    refine ⟨j, j0, by omega, ?_⟩
    rw [e1, e2]
    rcases c with ⟨c1, c2⟩ | ⟨c1, c2⟩
    · exact Or.inl ⟨by rw [c1], by rw [c2]⟩
    · exact Or.inr ⟨by rw [c1], by rw [c2]⟩
  · rintro ⟨j, j0, j1, c⟩
    obtain ⟨g1, g2, _, e1, e2⟩ := h.1 j j0 (by omega)
    rw [e1, e2] at c
    refine ⟨j, j0, by omega, ?_⟩
    rcases c with ⟨c1, c2⟩ | ⟨c1, c2⟩
    · exact Or.inl ⟨ocF_inj ⟨g1.1, by omega⟩ ⟨a0, by omega⟩ c1, ocF_inj ⟨g2.1, by omega⟩ ⟨b0, by omega⟩ c2⟩
    · exact Or.inr ⟨ocF_inj ⟨g1.1, by omega⟩ ⟨b0, by omega⟩ c1, ocF_inj ⟨g2.1, by omega⟩ ⟨a0, by omega⟩ c2⟩
theorem TBq_set {P P' : Int → Int → Prop} {H : PH} {x y v : Int} (hx : 1 ≤ x ∧ x ≤ 36) (hy : 1 ≤ y ∧ y ≤ 36) (hxy : ¬ x = y) (h : TBq P H) (h1 : v = 1 → P' x y ∧ P' y x) (h3 : ¬ v = 1 → v = 3 ∧ ¬ P' x y ∧ ¬ P' y x) (hP : ∀ a b, ¬ (a = x ∧ b = y) → ¬ (a = y ∧ b = x) → (P a b ↔ P' a b)) : TBq P' (pup (pup H (4 + x) y v) (4 + y) x v) := by
  intro a b a0 a1 b0 b1
  by_cases c1 : a = x ∧ b = y
  · obtain ⟨rfl, rfl⟩ := c1
    have e : pup (pup H (4 + a) b v) (4 + b) a v (4 + a) b = v := by
      rw [xp_ne (by omega), xp_at, if_pos rfl]
    rw [e]
    by_cases q : v = 1
    · exact ⟨fun w => (hxy w).elim, fun _ _ => q, fun _ w => (w (Or.inr (Or.inr (h1 q).1))).elim⟩
    · refine ⟨fun w => (hxy w).elim, fun _ w => ?_, fun _ _ => (h3 q).1⟩
      rcases w with w | w | w
      · omega
      · omega
      · exact ((h3 q).2.1 w).elim
  · by_cases c2 : a = y ∧ b = x
    · obtain ⟨rfl, rfl⟩ := c2
      have e : pup (pup H (4 + b) a v) (4 + a) b v (4 + a) b = v := by
        rw [xp_at, if_pos rfl]
      rw [e]
      by_cases q : v = 1
      · exact ⟨fun w => (hxy w.symm).elim, fun _ _ => q, fun _ w => (w (Or.inr (Or.inr (h1 q).2))).elim⟩
      · refine ⟨fun w => (hxy w.symm).elim, fun _ w => ?_, fun _ _ => (h3 q).1⟩
        rcases w with w | w | w
        · omega
        · omega
        · exact ((h3 q).2.2 w).elim
    · have e : pup (pup H (4 + x) y v) (4 + y) x v (4 + a) b = H (4 + a) b := by
        by_cases d1 : a = y
        · rw [d1, xp_at, if_neg (fun w => c2 ⟨d1, w⟩), xp_ne (by omega)]
        · rw [xp_ne (by omega)]
          by_cases d2 : a = x
          · rw [d2, xp_at, if_neg (fun w => c1 ⟨d2, w⟩)]
          · rw [xp_ne (by omega)]
      rw [e]
      obtain ⟨g1, g2, g3⟩ := h a b a0 a1 b0 b1
      have p := hP a b c1 c2
      exact ⟨g1, fun w q => g2 w (q.imp_right (fun q => q.imp_right p.mpr)), fun w q => g3 w (fun r => q (r.imp_right (fun r => r.imp_right p.mp)))⟩
theorem sp_X8_setCost (a b v : Int) (H : PH) (ha : 0 ≤ a ∧ a ≤ 37) (hb : 0 ≤ b ∧ b ≤ 37) : SPEC 82 [(2, 2), (0, a), (0, b), (0, v)] H (fun r H' => r = none ∧ H' = pup (pup H (4 + a) b v) (4 + b) a v) := by
  intro E n res h
  have g1 : ∀ X : PH, gv X 3 a = 4 + a := fun X => gv3 ha.1 (by omega)
  have g2 : ∀ X : PH, gv X 3 b = 4 + b := fun X => gv3 hb.1 (by omega)
  have i1 : 0 ≤ 4 + a := by omega
  have i2 : 0 ≤ 4 + b := by omega
  have h := call_runP 4 vm_X8_setCost h
  have h := xw_top (hd := []) 3 xD6_ok xc_X8_setCost xa_X8_setCost (t := 0) rfl h
  simp (maxDischargeDepth := 12) -implicitDefEqProofs [vb_X8_setCost_0, xI_0, xI_1, xI_49, xI_52, xI_53, xI_65, xw_X8_setCost_0, zw_lit, xB_c, xB_s, xB_n, i1_c, j2_c, k1_c, jJ_e, xlg, xls, xla, xpd, ppush, zw_m1, zw_m2, zw_m3, gf_8_0, tg_8_0, gv_2_0, xD1, xD2, xD3, xD4, xD5, xD6, xb1_0, g1, g2, i1, i2] at h
  exact ⟨_, _, h, rfl, rfl⟩
theorem lp_cut (m c : Int) (hm : 0 ≤ m ∧ m ≤ 8) (hc : 0 ≤ c) (H0 : PH) (h1 : ∀ j, 0 ≤ j → j < m → (1 ≤ H0 42 j ∧ H0 42 j ≤ 36) ∧ (1 ≤ H0 43 j ∧ H0 43 j ≤ 36) ∧ ¬ H0 42 j = H0 43 j) (h2 : ∀ i j, 0 ≤ i → i < m → 0 ≤ j → j < m → mtC H0 i (H0 42 j) (H0 43 j) → i = j) {E : xE} {res : xR} : ∀ (n : Nat) (i : Int) (H : PH), c ≤ i → (∀ d, ¬ (5 ≤ d ∧ d ≤ 40) → H d = H0 d) → H0 2 3 = m → TBq (fun a b => ∃ j, 0 ≤ j ∧ (j < c ∨ i ≤ j) ∧ j < m ∧ mtC H0 j a b) H → RUN E res n kd_X8_cutCouples (zget kd_X8_cutCouples 6) 6 [2, c, i] [] H → ∃ H' : PH, TBq (lkC H0 (min m c)) H' ∧ (∀ d, ¬ (5 ≤ d ∧ d ≤ 40) → ¬ d = 2 → H' d = H0 d) ∧ (∀ i, ¬ i = 3 → H' 2 i = H0 2 i) ∧ H' 2 3 = min m c ∧ REPR E res none H' := by
  intro n
  induction n using Nat.strongRecOn with
  | _ n ih =>
    intro i H hi hF hm2 hT h
    have z1 : i < m → zw (i + 1) = i + 1 := fun _ => zw_lit (by omega) (by omega)
    have e2 : H 2 3 = m := by rw [hF 2 (by decide)]; exact hm2
    have e42 : H 42 = H0 42 := hF 42 (by decide)
    have e43 : H 43 = H0 43 := hF 43 (by decide)
    by_cases q : m ≤ i
    · have zc : min c m = min m c := Int.min_comm _ _
      have h := xw_top (hd := [6]) 5 xD6_ok xc_X8_cutCouples xa_X8_cutCouples (t := 6) rfl h
      simp (maxDischargeDepth := 12) -implicitDefEqProofs [vb_X8_cutCouples_0, vb_X8_cutCouples_6, vb_X8_cutCouples_37, xI_0, xI_1, xI_3, xI_6, xI_7, xI_36, xI_46, xI_49, xI_50, xI_51, xI_55, xI_56, xI_61, xI_65, xw_X8_cutCouples_0, xw_X8_cutCouples_6, xw_X8_cutCouples_37, zw_lit, xB_c, xB_s, xB_n, i1_c, j2_c, k1_c, jJ_e, xlg, xls, xla, xpd, ppush, zw_m1, zw_m2, zw_m3, gf_8_1, gf_8_2, gf_8_3, pf_8_3, tg_8_1, tg_8_2, tg_8_3, gv_2_1, gv_2_2, gv_2_3, xD1, xD2, xD3, xD4, xD5, xD6, xb1_0, e2, mn_a, zc] at h
      have h := (h.resolve_right (by omega)).2
      refine ⟨_, ?_, fun d d0 d1 => ?_, fun i i3 => ?_, ?_, h⟩
      · intro a b a0 a1 b0 b1
        rw [xp_ne (by omega)]
        obtain ⟨g1, g2, g3⟩ := hT a b a0 a1 b0 b1
        have p : lkC H0 (min m c) a b ↔ ∃ j, 0 ≤ j ∧ (j < c ∨ i ≤ j) ∧ j < m ∧ mtC H0 j a b := by
          constructor
          · rintro ⟨j, j0, j1, j2⟩
            exact ⟨j, j0, Or.inl (by omega), by omega, j2⟩
          · rintro ⟨j, j0, j1, j2, j3⟩
            exact ⟨j, j0, by omega, j3⟩
        exact ⟨g1, fun w q => g2 w (q.imp_right (fun q => q.imp_right p.mp)), fun w q => g3 w (fun r => q (r.imp_right (fun r => r.imp_right p.mpr)))⟩
      · rw [xp_ne d1]
        exact hF d d0
      · rw [xp_at, if_neg i3, hF 2 (by decide)]
      · rw [xp_at, if_pos rfl]
    · obtain ⟨p1, p2, p3⟩ := h1 i (by omega) (by omega)
      have z1 := z1 (by omega)
      have h := xw_top (hd := [6]) 5 xD6_ok xc_X8_cutCouples xa_X8_cutCouples (t := 6) rfl h
      simp (maxDischargeDepth := 12) -implicitDefEqProofs [vb_X8_cutCouples_0, vb_X8_cutCouples_6, vb_X8_cutCouples_37, xI_0, xI_1, xI_3, xI_6, xI_7, xI_36, xI_46, xI_49, xI_50, xI_51, xI_55, xI_56, xI_61, xI_65, xw_X8_cutCouples_0, xw_X8_cutCouples_6, xw_X8_cutCouples_37, zw_lit, xB_c, xB_s, xB_n, i1_c, j2_c, k1_c, jJ_e, xlg, xls, xla, xpd, ppush, zw_m1, zw_m2, zw_m3, gf_8_1, gf_8_2, gf_8_3, pf_8_3, tg_8_1, tg_8_2, tg_8_3, gv_2_1, gv_2_2, gv_2_3, xD1, xD2, xD3, xD4, xD5, xD6, xb1_0, e2, e42, e43, z1] at h
      have h := (h.resolve_left (by omega)).2
      obtain ⟨r, H1, ⟨rfl, rfl⟩, h⟩ := xc_use h (sp_X8_setCost (H0 42 i) (H0 43 i) 3 H (by omega) (by omega))
      simp (maxDischargeDepth := 12) -implicitDefEqProofs [vb_X8_cutCouples_0, vb_X8_cutCouples_6, vb_X8_cutCouples_37, xI_0, xI_1, xI_3, xI_6, xI_7, xI_36, xI_46, xI_49, xI_50, xI_51, xI_55, xI_56, xI_61, xI_65, xw_X8_cutCouples_0, xw_X8_cutCouples_6, xw_X8_cutCouples_37, zw_lit, xB_c, xB_s, xB_n, i1_c, j2_c, k1_c, jJ_e, xlg, xls, xla, xpd, ppush, zw_m1, zw_m2, zw_m3, gf_8_1, gf_8_2, gf_8_3, pf_8_3, tg_8_1, tg_8_2, tg_8_3, gv_2_1, gv_2_2, gv_2_3, xD1, xD2, xD3, xD4, xD5, xD6, xb1_0, z1] at h
      obtain ⟨k, hk, h⟩ := h
      refine ih k hk (i + 1) _ (by omega) (fun d hd => ?_) hm2 (TBq_set p1 p2 p3 hT (fun w => by omega) (fun _ => ⟨rfl, ?_, ?_⟩) (fun a b n1 n2 => ?_)) h
      · rw [xp_ne (by omega), xp_ne (by omega)]
        exact hF d hd
      · rintro ⟨j, j0, j1, j2, j3⟩
        have := h2 j i j0 j2 (by omega) (by omega) j3
        omega
      · rintro ⟨j, j0, j1, j2, j3⟩
        have := h2 j i j0 j2 (by omega) (by omega) j3.symm
        omega
      · constructor
        · rintro ⟨j, j0, j1, j2, j3⟩
          refine ⟨j, j0, ?_, j2, j3⟩
          by_cases e : j = i
          · rw [e] at j3
            rcases j3 with ⟨w1, w2⟩ | ⟨w1, w2⟩
            · exact (n1 ⟨w1.symm, w2.symm⟩).elim
            · exact (n2 ⟨w2.symm, w1.symm⟩).elim
          · omega
        · rintro ⟨j, j0, j1, j2, j3⟩
          exact ⟨j, j0, by omega, j2, j3⟩
theorem sp_X8_cutCouples (m c : Int) (H : PH) (hm : 0 ≤ m ∧ m ≤ 8) (hc : 0 ≤ c) (h1 : ∀ j, 0 ≤ j → j < m → (1 ≤ H 42 j ∧ H 42 j ≤ 36) ∧ (1 ≤ H 43 j ∧ H 43 j ≤ 36) ∧ ¬ H 42 j = H 43 j) (h2 : ∀ i j, 0 ≤ i → i < m → 0 ≤ j → j < m → mtC H i (H 42 j) (H 43 j) → i = j) (hm2 : H 2 3 = m) (hT : TBq (lkC H m) H) : SPEC 84 [(2, 2), (0, c)] H (fun r H' => r = none ∧ TBq (lkC H (min m c)) H' ∧ (∀ d, ¬ (5 ≤ d ∧ d ≤ 40) → ¬ d = 2 → H' d = H d) ∧ (∀ i, ¬ i = 3 → H' 2 i = H 2 i) ∧ H' 2 3 = min m c) := by
  intro E n res h
  have e0 : max 0 c = c := by omega
  have h := call_runP 3 vm_X8_cutCouples h
  have h := xw_top (hd := [6]) 5 xD6_ok xc_X8_cutCouples xa_X8_cutCouples (t := 0) rfl h
  simp (maxDischargeDepth := 12) -implicitDefEqProofs [vb_X8_cutCouples_0, vb_X8_cutCouples_6, vb_X8_cutCouples_37, xI_0, xI_1, xI_3, xI_6, xI_7, xI_36, xI_46, xI_49, xI_50, xI_51, xI_55, xI_56, xI_61, xI_65, xw_X8_cutCouples_0, xw_X8_cutCouples_6, xw_X8_cutCouples_37, zw_lit, xB_c, xB_s, xB_n, i1_c, j2_c, k1_c, jJ_e, xlg, xls, xla, xpd, ppush, zw_m1, zw_m2, zw_m3, gf_8_1, gf_8_2, gf_8_3, pf_8_3, tg_8_1, tg_8_2, tg_8_3, gv_2_1, gv_2_2, gv_2_3, xD1, xD2, xD3, xD4, xD5, xD6, xb1_0, mn_b, e0] at h
  obtain ⟨k, hk, h⟩ := h
  obtain ⟨H', g1, g2, g3, g4, g5⟩ := lp_cut m c hm hc H h1 h2 k c H (Int.le_refl _) (fun _ _ => rfl) hm2 (fun a b a0 a1 b0 b1 => by
    obtain ⟨g1, g2, g3⟩ := hT a b a0 a1 b0 b1
    have p : lkC H m a b ↔ ∃ j, 0 ≤ j ∧ (j < c ∨ c ≤ j) ∧ j < m ∧ mtC H j a b := by
      constructor
      · rintro ⟨j, j0, j1, j2⟩
        exact ⟨j, j0, by omega, j1, j2⟩
      · rintro ⟨j, j0, j1, j2, j3⟩
        exact ⟨j, j0, j2, j3⟩
    exact ⟨g1, fun w q => g2 w (q.imp_right (fun q => q.imp_right p.mpr)), fun w q => g3 w (fun r => q (r.imp_right (fun r => r.imp_right p.mp)))⟩) h
  exact ⟨none, H', g5, rfl, g1, g2, g3, g4⟩
/-- how far the lines were measured, cut -/
theorem lp_keep (c : Int) (H0 : PH) (hD : LDi H0) (h2 : 0 ≤ H0 1 4 ∧ H0 1 4 ≤ 60) {E : xE} {res : xR} : ∀ (n : Nat) (k : Int) (H : PH), 0 ≤ k → k ≤ H0 1 4 → (∀ d, ¬ KL d → H d = H0 d) → (∀ q, KL q → ∀ i, ¬ i = 4 → H q i = H0 q i) → (∀ j, 0 ≤ j → j < k → H (H0 47 j) 4 = min (H0 (H0 47 j) 4) c) → (∀ j, k ≤ j → j < 60 → H (H0 47 j) 4 = H0 (H0 47 j) 4) → (∀ d, (∀ j, 0 ≤ j → j < H0 1 4 → ¬ d = H0 47 j) → H d = H0 d) → RUN E res n kd_X1_keepMeasured (zget kd_X1_keepMeasured 2) 2 [1, c, k] [] H → ∃ H' : PH, (∀ d, ¬ KL d → H' d = H0 d) ∧ (∀ q, KL q → ∀ i, ¬ i = 4 → H' q i = H0 q i) ∧ (∀ j, 0 ≤ j → j < H0 1 4 → H' (H0 47 j) 4 = min (H0 (H0 47 j) 4) c) ∧ (∀ d, (∀ j, 0 ≤ j → j < H0 1 4 → ¬ d = H0 47 j) → H' d = H0 d) ∧ REPR E res none H' := by
  intro n
  induction n using Nat.strongRecOn with
  | _ n ih =>
    intro k H hk0 hk1 hF hG hR hS hK h
    have z1 : zw (k + 1) = k + 1 := zw_lit (by omega) (by omega)
    have n1 : ¬ KL 1 := fun w => by have := KL_in w; omega
    have n47 : ¬ KL 47 := fun w => by have := KL_in w; omega
    have e1 : H 1 = H0 1 := hF 1 n1
    have e47 : H 47 = H0 47 := hF 47 n47
    by_cases q : H0 1 4 ≤ k
    · have h := xw_top (hd := [2]) 5 xD6_ok xc_X1_keepMeasured xa_X1_keepMeasured (t := 2) rfl h
      simp (maxDischargeDepth := 12) -implicitDefEqProofs [vb_X1_keepMeasured_0, vb_X1_keepMeasured_2, vb_X1_keepMeasured_38, xI_0, xI_1, xI_3, xI_6, xI_7, xI_36, xI_46, xI_49, xI_50, xI_53, xI_56, xI_65, xw_X1_keepMeasured_0, xw_X1_keepMeasured_2, xw_X1_keepMeasured_38, zw_lit, xB_c, xB_s, xB_n, i1_c, j2_c, k1_c, jJ_e, xlg, xls, xla, xpd, ppush, zw_m1, zw_m2, zw_m3, gf_1_3, gf_1_4, gf_5_4, pf_5_4, tg_1_3, tg_1_4, tg_5_4, gv_1_3, gv_1_4, xD1, xD2, xD3, xD4, xD5, xD6, xb1_0, e1] at h
      have h := (h.resolve_right (by omega)).2
      exact ⟨H, hF, hG, fun j j0 j1 => hR j j0 (by omega), hK, h⟩
    · have kq := hD.1 k hk0 (by omega)
      obtain ⟨f5, f0, f1, f2, f3, f4, f6⟩ := KL_f kq
      have i0 : 0 ≤ H0 47 k := by have := KL_in kq; omega
      have e4 : H (H0 47 k) 4 = H0 (H0 47 k) 4 := hS k (Int.le_refl _) (by omega)
      have zc : min c (H0 (H0 47 k) 4) = min (H0 (H0 47 k) 4) c := Int.min_comm _ _
      have h := xw_top (hd := [2]) 5 xD6_ok xc_X1_keepMeasured xa_X1_keepMeasured (t := 2) rfl h
      simp (maxDischargeDepth := 12) -implicitDefEqProofs [vb_X1_keepMeasured_0, vb_X1_keepMeasured_2, vb_X1_keepMeasured_38, xI_0, xI_1, xI_3, xI_6, xI_7, xI_36, xI_46, xI_49, xI_50, xI_53, xI_56, xI_65, xw_X1_keepMeasured_0, xw_X1_keepMeasured_2, xw_X1_keepMeasured_38, zw_lit, xB_c, xB_s, xB_n, i1_c, j2_c, k1_c, jJ_e, xlg, xls, xla, xpd, ppush, zw_m1, zw_m2, zw_m3, gf_1_3, gf_1_4, gf_5_4, pf_5_4, tg_1_3, tg_1_4, tg_5_4, gv_1_3, gv_1_4, xD1, xD2, xD3, xD4, xD5, xD6, xb1_0, e1, gv47, e47, f4, e4, z1, mn_a, zc, i0] at h
      have h := (h.resolve_left (by omega)).2
      obtain ⟨m, hm, h⟩ := h
      refine ih m hm (k + 1) _ (by omega) (by omega) (fun d hd => ?_) (fun p hp i hi => ?_) (fun j j0 j1 => ?_) (fun j j0 j1 => ?_) (fun d hd => by rw [xp_ne (hd k hk0 (by omega))]; exact hK d hd) h
      · rw [xp_ne (fun e => hd (by rw [e]; exact kq))]
        exact hF d hd
      · by_cases e : p = H0 47 k
        · rw [e, xp_at, if_neg hi]
          exact hG _ kq i hi
        · rw [xp_ne e]
          exact hG p hp i hi
      · by_cases e : j = k
        · rw [e, xp_at, if_pos rfl]
        · rw [xp_ne (fun w => e (hD.2 j k j0 (by omega) hk0 (by omega) w))]
          exact hR j j0 (by omega)
      · rw [xp_ne (fun w => by have := hD.2 j k (by omega) j1 hk0 (by omega) w; omega)]
        exact hS j (by omega) j1
theorem sp_X1_keepMeasured (c : Int) (H : PH) (hD : LDi H) (h2 : 0 ≤ H 1 4 ∧ H 1 4 ≤ 60) : SPEC 12 [(2, 1), (0, c)] H (fun r H' => r = none ∧ (∀ d, ¬ KL d → H' d = H d) ∧ (∀ q, KL q → ∀ i, ¬ i = 4 → H' q i = H q i) ∧ (∀ j, 0 ≤ j → j < H 1 4 → H' (H 47 j) 4 = min (H (H 47 j) 4) c) ∧ ∀ d, (∀ j, 0 ≤ j → j < H 1 4 → ¬ d = H 47 j) → H' d = H d) := by
  intro E n res h
  have h := call_runP 3 vm_X1_keepMeasured h
  have h := xw_top (hd := [2]) 5 xD6_ok xc_X1_keepMeasured xa_X1_keepMeasured (t := 0) rfl h
  simp (maxDischargeDepth := 12) -implicitDefEqProofs [vb_X1_keepMeasured_0, vb_X1_keepMeasured_2, vb_X1_keepMeasured_38, xI_0, xI_1, xI_3, xI_6, xI_7, xI_36, xI_46, xI_49, xI_50, xI_53, xI_56, xI_65, xw_X1_keepMeasured_0, xw_X1_keepMeasured_2, xw_X1_keepMeasured_38, zw_lit, xB_c, xB_s, xB_n, i1_c, j2_c, k1_c, jJ_e, xlg, xls, xla, xpd, ppush, zw_m1, zw_m2, zw_m3, gf_1_3, gf_1_4, gf_5_4, pf_5_4, tg_1_3, tg_1_4, tg_5_4, gv_1_3, gv_1_4, xD1, xD2, xD3, xD4, xD5, xD6, xb1_0] at h
  obtain ⟨m, hm, h⟩ := h
  obtain ⟨H', g1, g2, g3, g5, g4⟩ := lp_keep c H hD h2 m 0 H (by omega) h2.1 (fun _ _ => rfl) (fun _ _ _ _ => rfl) (fun j j0 j1 => by omega) (fun _ _ _ => rfl) (fun _ _ => rfl) h
  exact ⟨none, H', g4, rfl, g1, g2, g3, g5⟩
