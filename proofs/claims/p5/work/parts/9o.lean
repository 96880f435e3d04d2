theorem pf_0_1 : pfOK 0 1 = true := by decide +kernel
theorem pf_0_2 : pfOK 0 2 = true := by decide +kernel
theorem pf_0_3 : pfOK 0 3 = true := by decide +kernel
theorem pf_0_4 : pfOK 0 4 = true := by decide +kernel
theorem pf_0_5 : pfOK 0 5 = true := by decide +kernel
theorem pf_0_64 : pfOK 0 64 = true := by decide +kernel
def xm_X0_begin : List xbT := [(0, vb_X0_begin_0, none)]
theorem xc_X0_begin : xOK kd_X0_begin xm_X0_begin := ⟨ve_X0_begin_0, trivial⟩
theorem xa_X0_begin : xm_X0_begin.all (fun q => aOKb q.2.1 && !q.2.1.isEmpty) = true := by decide +kernel
theorem xw_X0_begin_0 {E : xE} {res : xR} {N : Nat} {hd : List Nat} {C : xCT} {k : Nat} {L : List Int} {st : List pv} {H : PH} : xW E res N kd_X0_begin xm_X0_begin hd C (k + 1) 0 L st H = xB (fun t L st H => if t ∈ hd then xJ E res N kd_X0_begin t L st H else xW E res N kd_X0_begin xm_X0_begin hd C k t L st H) (REPR E res) C (none) vb_X0_begin_0 0 L st H := Eq.trans rfl rfl
def xm_X1_isTold : List xbT := [(0, vb_X1_isTold_0, some 2), (2, vb_X1_isTold_2, some 26), (26, vb_X1_isTold_26, some 32), (32, vb_X1_isTold_32, none)]
theorem xc_X1_isTold : xOK kd_X1_isTold xm_X1_isTold := ⟨ve_X1_isTold_0, ve_X1_isTold_2, ve_X1_isTold_26, ve_X1_isTold_32, trivial⟩
theorem xa_X1_isTold : xm_X1_isTold.all (fun q => aOKb q.2.1 && !q.2.1.isEmpty) = true := by decide +kernel
theorem xw_X1_isTold_0 {E : xE} {res : xR} {N : Nat} {hd : List Nat} {C : xCT} {k : Nat} {L : List Int} {st : List pv} {H : PH} : xW E res N kd_X1_isTold xm_X1_isTold hd C (k + 1) 0 L st H = xB (fun t L st H => if t ∈ hd then xJ E res N kd_X1_isTold t L st H else xW E res N kd_X1_isTold xm_X1_isTold hd C k t L st H) (REPR E res) C (some 2) vb_X1_isTold_0 0 L st H := Eq.trans rfl rfl
theorem xw_X1_isTold_2 {E : xE} {res : xR} {N : Nat} {hd : List Nat} {C : xCT} {k : Nat} {L : List Int} {st : List pv} {H : PH} : xW E res N kd_X1_isTold xm_X1_isTold hd C (k + 1) 2 L st H = xB (fun t L st H => if t ∈ hd then xJ E res N kd_X1_isTold t L st H else xW E res N kd_X1_isTold xm_X1_isTold hd C k t L st H) (REPR E res) C (some 26) vb_X1_isTold_2 2 L st H := Eq.trans rfl rfl
theorem xw_X1_isTold_26 {E : xE} {res : xR} {N : Nat} {hd : List Nat} {C : xCT} {k : Nat} {L : List Int} {st : List pv} {H : PH} : xW E res N kd_X1_isTold xm_X1_isTold hd C (k + 1) 26 L st H = xB (fun t L st H => if t ∈ hd then xJ E res N kd_X1_isTold t L st H else xW E res N kd_X1_isTold xm_X1_isTold hd C k t L st H) (REPR E res) C (some 32) vb_X1_isTold_26 26 L st H := Eq.trans rfl rfl
theorem xw_X1_isTold_32 {E : xE} {res : xR} {N : Nat} {hd : List Nat} {C : xCT} {k : Nat} {L : List Int} {st : List pv} {H : PH} : xW E res N kd_X1_isTold xm_X1_isTold hd C (k + 1) 32 L st H = xB (fun t L st H => if t ∈ hd then xJ E res N kd_X1_isTold t L st H else xW E res N kd_X1_isTold xm_X1_isTold hd C k t L st H) (REPR E res) C (none) vb_X1_isTold_32 32 L st H := Eq.trans rfl rfl
def xm_X1_takeBill : List xbT := [(0, vb_X1_takeBill_0, some 18), (18, vb_X1_takeBill_18, some 47), (47, vb_X1_takeBill_47, some 61), (61, vb_X1_takeBill_61, some 78), (78, vb_X1_takeBill_78, some 79), (79, vb_X1_takeBill_79, some 103), (103, vb_X1_takeBill_103, some 104), (104, vb_X1_takeBill_104, some 120), (120, vb_X1_takeBill_120, some 122), (122, vb_X1_takeBill_122, none)]
theorem xc_X1_takeBill : xOK kd_X1_takeBill xm_X1_takeBill := ⟨ve_X1_takeBill_0, ve_X1_takeBill_18, ve_X1_takeBill_47, ve_X1_takeBill_61, ve_X1_takeBill_78, ve_X1_takeBill_79, ve_X1_takeBill_103, ve_X1_takeBill_104, ve_X1_takeBill_120, ve_X1_takeBill_122, trivial⟩
theorem xa_X1_takeBill : xm_X1_takeBill.all (fun q => aOKb q.2.1 && !q.2.1.isEmpty) = true := by decide +kernel
theorem xw_X1_takeBill_0 {E : xE} {res : xR} {N : Nat} {hd : List Nat} {C : xCT} {k : Nat} {L : List Int} {st : List pv} {H : PH} : xW E res N kd_X1_takeBill xm_X1_takeBill hd C (k + 1) 0 L st H = xB (fun t L st H => if t ∈ hd then xJ E res N kd_X1_takeBill t L st H else xW E res N kd_X1_takeBill xm_X1_takeBill hd C k t L st H) (REPR E res) C (some 18) vb_X1_takeBill_0 0 L st H := Eq.trans rfl rfl
theorem xw_X1_takeBill_18 {E : xE} {res : xR} {N : Nat} {hd : List Nat} {C : xCT} {k : Nat} {L : List Int} {st : List pv} {H : PH} : xW E res N kd_X1_takeBill xm_X1_takeBill hd C (k + 1) 18 L st H = xB (fun t L st H => if t ∈ hd then xJ E res N kd_X1_takeBill t L st H else xW E res N kd_X1_takeBill xm_X1_takeBill hd C k t L st H) (REPR E res) C (some 47) vb_X1_takeBill_18 18 L st H := Eq.trans rfl rfl
theorem xw_X1_takeBill_47 {E : xE} {res : xR} {N : Nat} {hd : List Nat} {C : xCT} {k : Nat} {L : List Int} {st : List pv} {H : PH} : xW E res N kd_X1_takeBill xm_X1_takeBill hd C (k + 1) 47 L st H = xB (fun t L st H => if t ∈ hd then xJ E res N kd_X1_takeBill t L st H else xW E res N kd_X1_takeBill xm_X1_takeBill hd C k t L st H) (REPR E res) C (some 61) vb_X1_takeBill_47 47 L st H := Eq.trans rfl rfl
theorem xw_X1_takeBill_61 {E : xE} {res : xR} {N : Nat} {hd : List Nat} {C : xCT} {k : Nat} {L : List Int} {st : List pv} {H : PH} : xW E res N kd_X1_takeBill xm_X1_takeBill hd C (k + 1) 61 L st H = xB (fun t L st H => if t ∈ hd then xJ E res N kd_X1_takeBill t L st H else xW E res N kd_X1_takeBill xm_X1_takeBill hd C k t L st H) (REPR E res) C (some 78) vb_X1_takeBill_61 61 L st H := Eq.trans rfl rfl
theorem xw_X1_takeBill_78 {E : xE} {res : xR} {N : Nat} {hd : List Nat} {C : xCT} {k : Nat} {L : List Int} {st : List pv} {H : PH} : xW E res N kd_X1_takeBill xm_X1_takeBill hd C (k + 1) 78 L st H = xB (fun t L st H => if t ∈ hd then xJ E res N kd_X1_takeBill t L st H else xW E res N kd_X1_takeBill xm_X1_takeBill hd C k t L st H) (REPR E res) C (some 79) vb_X1_takeBill_78 78 L st H := Eq.trans rfl rfl
theorem xw_X1_takeBill_79 {E : xE} {res : xR} {N : Nat} {hd : List Nat} {C : xCT} {k : Nat} {L : List Int} {st : List pv} {H : PH} : xW E res N kd_X1_takeBill xm_X1_takeBill hd C (k + 1) 79 L st H = xB (fun t L st H => if t ∈ hd then xJ E res N kd_X1_takeBill t L st H else xW E res N kd_X1_takeBill xm_X1_takeBill hd C k t L st H) (REPR E res) C (some 103) vb_X1_takeBill_79 79 L st H := Eq.trans rfl rfl
theorem xw_X1_takeBill_103 {E : xE} {res : xR} {N : Nat} {hd : List Nat} {C : xCT} {k : Nat} {L : List Int} {st : List pv} {H : PH} : xW E res N kd_X1_takeBill xm_X1_takeBill hd C (k + 1) 103 L st H = xB (fun t L st H => if t ∈ hd then xJ E res N kd_X1_takeBill t L st H else xW E res N kd_X1_takeBill xm_X1_takeBill hd C k t L st H) (REPR E res) C (some 104) vb_X1_takeBill_103 103 L st H := Eq.trans rfl rfl
theorem xw_X1_takeBill_104 {E : xE} {res : xR} {N : Nat} {hd : List Nat} {C : xCT} {k : Nat} {L : List Int} {st : List pv} {H : PH} : xW E res N kd_X1_takeBill xm_X1_takeBill hd C (k + 1) 104 L st H = xB (fun t L st H => if t ∈ hd then xJ E res N kd_X1_takeBill t L st H else xW E res N kd_X1_takeBill xm_X1_takeBill hd C k t L st H) (REPR E res) C (some 120) vb_X1_takeBill_104 104 L st H := Eq.trans rfl rfl
theorem xw_X1_takeBill_120 {E : xE} {res : xR} {N : Nat} {hd : List Nat} {C : xCT} {k : Nat} {L : List Int} {st : List pv} {H : PH} : xW E res N kd_X1_takeBill xm_X1_takeBill hd C (k + 1) 120 L st H = xB (fun t L st H => if t ∈ hd then xJ E res N kd_X1_takeBill t L st H else xW E res N kd_X1_takeBill xm_X1_takeBill hd C k t L st H) (REPR E res) C (some 122) vb_X1_takeBill_120 120 L st H := Eq.trans rfl rfl
theorem xw_X1_takeBill_122 {E : xE} {res : xR} {N : Nat} {hd : List Nat} {C : xCT} {k : Nat} {L : List Int} {st : List pv} {H : PH} : xW E res N kd_X1_takeBill xm_X1_takeBill hd C (k + 1) 122 L st H = xB (fun t L st H => if t ∈ hd then xJ E res N kd_X1_takeBill t L st H else xW E res N kd_X1_takeBill xm_X1_takeBill hd C k t L st H) (REPR E res) C (none) vb_X1_takeBill_122 122 L st H := Eq.trans rfl rfl
/-! the class's state while a text is taken: A the row ahead of it, B what is taken -/
def EXT (A B : Int → Int) : Prop := A 0 ≤ B 0 ∧ A 1 ≤ B 1 ∧ A 2 ≤ B 2 ∧ (∀ j, 3 ≤ j → j < 76 + 2 * A 1 → B j = A j) ∧ (∀ j, 92 ≤ j → j < 92 + 26 * A 0 → B j = A j) ∧ ∀ j, 404 ≤ j → j < 404 + 12 * A 2 → B j = A j
theorem EXT_refl (A : Int → Int) : EXT A A := ⟨Int.le_refl _, Int.le_refl _, Int.le_refl _, fun _ _ _ => rfl, fun _ _ _ => rfl, fun _ _ _ => rfl⟩
def TXr (A B : Int → Int) (H : PH) : Prop := CR H B ∧ CPr H B ∧ LDi H ∧ MB B ∧ (0 ≤ B 11 ∧ B 11 ≤ 60) ∧ (∀ k, 0 ≤ k → k < B 2 → 0 ≤ H (H 47 k) 4 ∧ H (H 47 k) 4 ≤ B 0) ∧ (B 1 = A 1 → GCr H B) ∧ EXT A B ∧ MB A
theorem TXr_fr {A B : Int → Int} {H H' : PH} (h : TXr A B H) (hz : ∀ c, ¬ (213 ≤ c ∧ c ≤ 467) → H' c = H c) : TXr A B H' := by
  obtain ⟨a, b, c, d, l, e, f, g, i⟩ := h
  have e47 : H' 47 = H 47 := hz 47 (by decide)
  have d2 := d.2.2.1
  refine ⟨CR_eq d c a (fun x x1 _ _ _ _ => hz x (by omega)) (fun q hq i _ => by rw [hz q (by have := KZ (Or.inr hq); omega)]) (fun w hw => by have := KZ (Or.inl hw); exact ⟨hz w (by omega), hz _ (by omega)⟩), ?_, ?_, d, l, fun k k0 k1 => ?_, fun w => ?_, g, i⟩
  · unfold CPr mtC at b ⊢
    rw [hz 42 (by decide), hz 43 (by decide)]
    exact b
  · unfold LDi
    rw [e47]
    exact c
  · have := KZ (Or.inr (c.1 k k0 (by omega)))
    rw [e47, hz _ (by omega)]
    exact e k k0 k1
  · have w := f w
    intro k k0 k1
    have := KZ (Or.inr (c.1 k k0 (by omega)))
    rw [e47, hz _ (by omega), hz (H 47 k + 1) (by omega)]
    exact w k k0 k1
theorem TXr_PF {A B : Int → Int} {H H' : PH} (h : TXr A B H) (p : PF H H') : TXr A B H' := TXr_fr h (fun c hc => p.1 c (by omega))
/-- what taking items leaves as it is -/
def FXt (A : Int → Int) (H H' : PH) : Prop := (∀ d, ¬ (d = 1 ∨ d = 2 ∨ (5 ≤ d ∧ d ≤ 40) ∨ d = 42 ∨ d = 43 ∨ (57 ≤ d ∧ d ≤ 92) ∨ d = 213) → (∀ k, A 2 ≤ k → k < 60 → ¬ d = H 47 k) → H' d = H d) ∧ (∀ i, ¬ i = 2 → ¬ i = 4 → H' 1 i = H 1 i) ∧ (∀ i, ¬ i = 3 → H' 2 i = H 2 i) ∧ (∀ i, ¬ i = 2 → ¬ i = 3 → H' 213 i = H 213 i) ∧ H' 47 = H 47
theorem FXt_PF {A : Int → Int} {H H' : PH} (p : PF H H') : FXt A H H' := ⟨fun d hd _ => p.1 d (by omega), fun i _ _ => by rw [p.1 1 (by decide)], fun i _ => by rw [p.1 2 (by decide)], p.2, p.1 47 (by decide)⟩
theorem FXt_refl {A : Int → Int} {H : PH} : FXt A H H := FXt_PF PF_refl
theorem FXt_trans {A : Int → Int} {H H1 H2 : PH} (a : FXt A H H1) (b : FXt A H1 H2) : FXt A H H2 := ⟨fun d h1 h2 => (b.1 d h1 (fun k k0 k1 => by rw [a.2.2.2.2]; exact h2 k k0 k1)).trans (a.1 d h1 h2), fun i h1 h2 => (b.2.1 i h1 h2).trans (a.2.1 i h1 h2), fun i h1 => (b.2.2.1 i h1).trans (a.2.2.1 i h1), fun i h1 h2 => (b.2.2.2.1 i h1 h2).trans (a.2.2.2.1 i h1 h2), b.2.2.2.2.trans a.2.2.2.2⟩
/-! a bill more -/
theorem REq_bl {sz : Int} {w : Int → Int} {a : Int} {B : Int → Int} {b : Int} (hB : MB B) (h0 : 0 ≤ b) (h1 : b < B 0) : EB B (blR sz w a B) (92 + 26 * b) := EB_out (fun i i0 i1 => (blR_lo (by omega) (by omega)).symm) (hB.2.2.2.1 b h0 (by have := hB.1; omega)).2 (hB.2.2.2.2.1 b h0 (by have := hB.1; omega)).2
theorem REl_bl {sz : Int} {w : Int → Int} {a : Int} {B : Int → Int} {k : Int} (hB : MB B) (h0 : 0 ≤ k) (h1 : k < 60) (hb : B 0 < 12) : EL B (blR sz w a B) (404 + 12 * k) := EL_out (fun i i0 i1 => (blR_hi (by omega) (by omega)).symm) (hB.2.2.2.2.2.1 k h0 h1).2
theorem chA_bl {sz : Int} {w : Int → Int} {a : Int} {B : Int → Int} (hB : MB B) (x y : Int) : chA B x y = chA (blR sz w a B) x y := by
  have b0 := hB.1
  have b1 := hB.2.1
  exact chA_cp (blR_lo (by decide) (by omega)).symm (fun i i0 i1 => ⟨(blR_lo (by omega) (by omega)).symm, (blR_lo (by omega) (by omega)).symm⟩) x y
theorem TXr_bl {sz : Int} {w : Int → Int} {a : Int} {A B : Int → Int} {H H' : PH} (hw : ∀ i, 0 ≤ i → i < sz → 0 ≤ w i ∧ w i ≤ 255) (ha : 0 ≤ a) (h : TXr A B H) (hk : blK sz w a B) (hF : ∀ c, ¬ c = 1 → ¬ c = 57 + 3 * B 0 → ¬ c = 213 → H' c = H c) (h1 : ∀ i, H' 1 i = if i = 2 then B 0 + 1 else H 1 i) (hb : VM (H' (57 + 3 * B 0) 0) (b1F sz w a) (fun i => nxF sz w (a + 1 + i)) ∧ H' (57 + 3 * B 0) 1 = (b3F sz w a).1 ∧ H' (57 + 3 * B 0) 2 = (b4F sz w a).1 ∧ H' (57 + 3 * B 0) 3 = 0 ∧ H' (57 + 3 * B 0) 4 = 0 ∧ H' (57 + 3 * B 0) 5 = 0) : TXr A (blR sz w a B) H' := by
  obtain ⟨⟨⟨c0, c1, c2, cr⟩, b1, b2, b3, b4⟩, cp, c, d, l, e, f, g, i⟩ := h
  have hB0 := d.1
  have hB1 := d.2.1
  have hB2 := d.2.2.1
  have n12 : B 0 < 12 := by have := hk.1; omega
  have e0 : blR sz w a B 0 = B 0 + 1 := if_pos rfl
  have ej : ∀ j, 1 ≤ j → j < 92 + 26 * B 0 → blR sz w a B j = B j := fun j j0 j1 => blR_lo (by omega) j1
  have e47 : H' 47 = H 47 := hF 47 (by decide) (by omega) (by decide)
  have hq : ∀ q, KL q → H' q = H q ∧ H' (q + 1) = H (q + 1) := fun q hq => by
    have := KL_in hq
    exact ⟨hF q (by omega) (by omega) (by omega), hF _ (by omega) (by omega) (by omega)⟩
  refine ⟨⟨⟨?_, ?_, ?_, ?_⟩, fun x x0 x1 => ?_, fun k k0 k1 => ?_, fun x y x0 x1 y0 y1 => ?_, ?_⟩, ?_, ?_, MB_bl hw ha d hk, ?_, fun k k0 k1 => ?_, fun w k k0 k1 => ?_, ?_, i⟩
  · rw [e0, h1, if_pos rfl]
  · rw [ej 1 (by decide) (by omega), hF 2 (by decide) (by omega) (by decide)]
    exact c1
  · rw [ej 2 (by decide) (by omega), h1, if_neg (by decide)]
    exact c2
  · simp only [h1, ej 3 (by decide) (by omega), ej 4 (by decide) (by omega), ej 5 (by decide) (by omega), ej 6 (by decide) (by omega), ej 7 (by decide) (by omega), ej 8 (by decide) (by omega), ej 9 (by decide) (by omega)]
    exact cr
  · rw [e0] at x1
    by_cases q : x = B 0
    · rw [q]
      obtain ⟨s1, s2, s3, s4, s5⟩ := blR_k (sz := sz) (w := w) (a := a) (B := B) rfl hB0.1 hk.2.1.2
      obtain ⟨t1, t2, t3, t4, t5, t6⟩ := hb
      refine ⟨VM_congr t1 (blR_n rfl hB0.1).symm (fun i i0 i1 => (blR_s rfl hB0.1 i0 i1 hk.2.1.2).symm), by rw [s1, t2], by rw [s2, t3], by rw [s3, t4], by rw [s4, t5], by rw [s5, t6], fun i i0 i1 => ?_⟩
      rw [t6] at i1
      omega
    · have gx := BRr_EQ (b1 x x0 (by omega)) (REq_bl (sz := sz) (w := w) (a := a) d x0 (by omega))
      unfold BRr at gx ⊢
      rw [hF (57 + 3 * x) (by omega) (by omega) (by omega), hF (57 + 3 * x + 1) (by omega) (by omega) (by omega), hF (57 + 3 * x + 2) (by omega) (by omega) (by omega)]
      exact gx
  · rw [ej 2 (by decide) (by omega)] at k1
    have gx := LNr_EQ (b2 k k0 k1) (REl_bl (sz := sz) (w := w) (a := a) d k0 (by omega) n12)
    unfold LNr at gx ⊢
    rw [e47, (hq _ (c.1 k k0 (by omega))).1]
    exact gx
  · rw [hF (4 + x) (by omega) (by omega) (by omega), b3 x y x0 x1 y0 y1]
    exact chA_bl d _ _
  · have kw := b4.1
    have nw := KWz kw
    obtain ⟨w0, w1, w2, w3⟩ := b4
    have e5 : H' 1 5 = H 1 5 := by rw [h1, if_neg (by decide)]
    unfold LWr
    rw [e5, hF (H 1 5) (by omega) (by omega) (by omega), hF (H 1 5 + 1) (by omega) (by omega) (by omega), ej 10 (by decide) (by omega), ej 11 (by decide) (by omega)]
    exact ⟨w0, w1, w2, fun k k0 k1 => by rw [ej (12 + k) (by omega) (by omega)]; exact w3 k k0 k1⟩
  · unfold CPr mtC at cp ⊢
    rw [hF 42 (by decide) (by omega) (by decide), hF 43 (by decide) (by omega) (by decide), ej 1 (by decide) (by omega)]
    refine ⟨fun j j0 j1 => ?_, cp.2⟩
    rw [ej (76 + 2 * j) (by omega) (by omega), ej (76 + 2 * j + 1) (by omega) (by omega)]
    exact cp.1 j j0 j1
  · unfold LDi
    rw [e47]
    exact c
  · rw [ej 11 (by decide) (by omega)]
    exact l
  · rw [ej 2 (by decide) (by omega)] at k1
    have := e k k0 k1
    rw [e47, (hq _ (c.1 k k0 (by omega))).1, e0]
    omega
  · rw [ej 2 (by decide) (by omega)] at k1
    rw [ej 1 (by decide) (by omega)] at w
    obtain ⟨g0, g1⟩ := f w k k0 k1
    rw [e47, (hq _ (c.1 k k0 (by omega))).1, (hq _ (c.1 k k0 (by omega))).2, e0]
    refine ⟨by omega, fun x x0 x1 x2 => ?_⟩
    rw [g1 x x0 x1 (by omega)]
    exact lapA_EQ (chA_bl d) (d.2.2.2.1 x x0 (by omega)).1 (REq_bl d x0 (by omega)) (REl_bl d k0 (by omega) n12)
  · obtain ⟨g0, g1, g2, g3, g4, g5⟩ := g
    have a1 := i.2.1
    have a0 := i.1
    refine ⟨by omega, by rw [ej 1 (by decide) (by omega)]; exact g1, by rw [ej 2 (by decide) (by omega)]; exact g2, fun j j0 j1 => ?_, fun j j0 j1 => ?_, fun j j0 j1 => ?_⟩
    · rw [ej j (by omega) (by omega)]
      exact g3 j j0 j1
    · rw [ej j (by omega) (by omega)]
      exact g4 j j0 j1
    · rw [blR_hi (by omega) (by omega)]
      exact g5 j j0 j1
theorem dgF_1 {sz : Int} {w : Int → Int} : ∀ (n : Nat) (a v : Int), 1 ≤ v → 1 ≤ (dgF sz w n a v).1
  | 0, a, v, h => h
  | n + 1, a, v, h => by
    unfold dgF
    split
    · exact dgF_1 n (a + 1) _ (by omega)
    · exact h
theorem dgF_ne {sz : Int} {w : Int → Int} {n : Nat} {a : Int} (hn : 1 ≤ n) (h : 49 ≤ nxF sz w a ∧ nxF sz w a ≤ 57) : ¬ (dgF sz w n a 0).1 = 0 := by
  obtain ⟨k, rfl⟩ : ∃ k, n = k + 1 := ⟨n - 1, by omega⟩
  unfold dgF
  rw [if_pos (by omega)]
  have := dgF_1 (sz := sz) (w := w) k (a + 1) (10 * 0 + nxF sz w a - 48) (by omega)
  omega
theorem sp_X0_begin (c m x y : Int) (H : PH) : SPEC 1 [(2, c), (1, m), (0, x), (0, y)] H (fun r H' => r = none ∧ H' = pup (pup (pup (pup (pup (pup H c 0 m) c 1 x) c 2 y) c 3 0) c 4 0) c 5 0) := by
  intro E n res h
  have h := call_runP 5 vm_X0_begin h
  have h := xw_top (hd := []) 3 xD6_ok xc_X0_begin xa_X0_begin (t := 0) rfl h
  simp (maxDischargeDepth := 12) -implicitDefEqProofs [vb_X0_begin_0, xI_0, xI_1, xI_2, xI_7, xI_50, xI_65, xw_X0_begin_0, zw_lit, xB_c, xB_s, xB_n, i1_c, j2_c, k1_c, jJ_e, xlg, xls, xla, xpd, ppush, zw_m1, zw_m2, zw_m3, pf_0_1, pf_0_2, pf_0_3, pf_0_4, pf_0_5, pf_0_64, tg_0_0, tg_0_1, tg_0_2, tg_0_3, tg_0_4, tg_0_5, xD1, xD2, xD3, xD4, xD5, xD6, xb1_0] at h
  exact ⟨_, _, h, rfl, rfl⟩
theorem lp_told (m : Int) (hm : 0 ≤ m ∧ m < 9223372036854775808) (H : PH) (hN : 0 ≤ H 1 2 ∧ H 1 2 ≤ 12) (hb : ∀ b, 0 ≤ b → b < H 1 2 → 0 ≤ H (57 + 3 * b) 0 ∧ H (57 + 3 * b) 0 < 9223372036854775808) {E : xE} {res : xR} : ∀ (n : Nat) (b x : Int), 0 ≤ b → b ≤ H 1 2 → (∀ j, 0 ≤ j → j < b → ¬ H (57 + 3 * j) 0 = m) → RUN E res n kd_X1_isTold (zget kd_X1_isTold 2) 2 [1, m, x, b] [] H → ((∃ j, 0 ≤ j ∧ j < H 1 2 ∧ H (57 + 3 * j) 0 = m) ∧ REPR E res (some (0, 1)) H) ∨ ((∀ j, 0 ≤ j → j < H 1 2 → ¬ H (57 + 3 * j) 0 = m) ∧ REPR E res (some (0, 0)) H) := by
  intro n
  induction n using Nat.strongRecOn with
  | _ n ih =>
    intro b x b0 b1 hN' h
    have z1 : zw (b + 1) = b + 1 := zw_lit (by omega) (by omega)
    by_cases q : H 1 2 ≤ b
    · have h := xw_top (hd := [2]) 6 xD6_ok xc_X1_isTold xa_X1_isTold (t := 2) rfl h
      simp (maxDischargeDepth := 12) -implicitDefEqProofs [vb_X1_isTold_0, vb_X1_isTold_2, vb_X1_isTold_26, vb_X1_isTold_32, xI_0, xI_1, xI_2, xI_3, xI_6, xI_7, xI_32, xI_36, xI_38, xI_46, xI_49, xI_53, xI_62, xw_X1_isTold_0, xw_X1_isTold_2, xw_X1_isTold_26, xw_X1_isTold_32, zw_lit, xB_c, xB_s, xB_n, i1_c, j2_c, k1_c, jJ_e, xlg, xls, xla, xpd, ppush, zw_m1, zw_m2, zw_m3, gf_0_0, gf_1_1, gf_1_2, tg_0_0, tg_1_1, tg_1_2, gv_1_1, gv_1_2, xD1, xD2, xD3, xD4, xD5, xD6, xb1_0] at h
      have h := (h.resolve_right (by omega)).2
      exact Or.inr ⟨fun j j0 j1 => hN' j j0 (by omega), h⟩
    · have g46 : gv H 46 b = 57 + 3 * b := gv46 b0 (by omega)
      obtain ⟨m6, m7, m0, m1, m2, m3, m4, m5, m8⟩ := KB_f (KB_of (b := b) b0 (by omega))
      have qc := qlcmp_0 (hb b b0 (by omega)) hm
      have h := xw_top (hd := [2]) 6 xD6_ok xc_X1_isTold xa_X1_isTold (t := 2) rfl h
      simp (maxDischargeDepth := 12) -implicitDefEqProofs [vb_X1_isTold_0, vb_X1_isTold_2, vb_X1_isTold_26, vb_X1_isTold_32, xI_0, xI_1, xI_2, xI_3, xI_6, xI_7, xI_32, xI_36, xI_38, xI_46, xI_49, xI_53, xI_62, xw_X1_isTold_0, xw_X1_isTold_2, xw_X1_isTold_26, xw_X1_isTold_32, zw_lit, xB_c, xB_s, xB_n, i1_c, j2_c, k1_c, jJ_e, xlg, xls, xla, xpd, ppush, zw_m1, zw_m2, zw_m3, gf_0_0, gf_1_1, gf_1_2, tg_0_0, tg_1_1, tg_1_2, gv_1_1, gv_1_2, xD1, xD2, xD3, xD4, xD5, xD6, xb1_0, g46, m0, qc, z1] at h
      have h := (h.resolve_left (by omega)).2
      rcases h with ⟨c, i, hi, h⟩ | ⟨c, h⟩
      · exact ih i hi (b + 1) _ (by omega) (by omega) (fun j j0 j1 => by
          by_cases e : j = b
          · rw [e]; exact c
          · exact hN' j j0 (by omega)) h
      · exact Or.inl ⟨⟨b, b0, by omega, c⟩, h⟩
theorem sp_X1_isTold (m : Int) (hm : 0 ≤ m ∧ m < 9223372036854775808) (H : PH) (hN : 0 ≤ H 1 2 ∧ H 1 2 ≤ 12) (hb : ∀ b, 0 ≤ b → b < H 1 2 → 0 ≤ H (57 + 3 * b) 0 ∧ H (57 + 3 * b) 0 < 9223372036854775808) : SPEC 8 [(2, 1), (1, m)] H (fun r H' => H' = H ∧ (((∃ j, 0 ≤ j ∧ j < H 1 2 ∧ H (57 + 3 * j) 0 = m) ∧ r = some (0, 1)) ∨ ((∀ j, 0 ≤ j → j < H 1 2 → ¬ H (57 + 3 * j) 0 = m) ∧ r = some (0, 0)))) := by
  intro E n res h
  have h := call_runP 4 vm_X1_isTold h
  have h := xw_top (hd := [2]) 6 xD6_ok xc_X1_isTold xa_X1_isTold (t := 0) rfl h
  simp (maxDischargeDepth := 12) -implicitDefEqProofs [vb_X1_isTold_0, vb_X1_isTold_2, vb_X1_isTold_26, vb_X1_isTold_32, xI_0, xI_1, xI_2, xI_3, xI_6, xI_7, xI_32, xI_36, xI_38, xI_46, xI_49, xI_53, xI_62, xw_X1_isTold_0, xw_X1_isTold_2, xw_X1_isTold_26, xw_X1_isTold_32, zw_lit, xB_c, xB_s, xB_n, i1_c, j2_c, k1_c, jJ_e, xlg, xls, xla, xpd, ppush, zw_m1, zw_m2, zw_m3, gf_0_0, gf_1_1, gf_1_2, tg_0_0, tg_1_1, tg_1_2, gv_1_1, gv_1_2, xD1, xD2, xD3, xD4, xD5, xD6, xb1_0] at h
  obtain ⟨i, hi, h⟩ := h
  rcases lp_told m hm H hN hb i 0 _ (by omega) hN.1 (fun j j0 j1 => by omega) h with ⟨a, b⟩ | ⟨a, b⟩
  · exact ⟨_, H, b, rfl, Or.inl ⟨a, rfl⟩⟩
  · exact ⟨_, H, b, rfl, Or.inr ⟨a, rfl⟩⟩
