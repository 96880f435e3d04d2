theorem gf_0_1 : gfOK 0 1 = true := by decide +kernel
theorem gf_1_5 : gfOK 1 5 = true := by decide +kernel
theorem gf_1_7 : gfOK 1 7 = true := by decide +kernel
theorem gf_5_0 : gfOK 5 0 = true := by decide +kernel
theorem gf_9_1 : gfOK 9 1 = true := by decide +kernel
theorem gf_9_2 : gfOK 9 2 = true := by decide +kernel
theorem gf_9_5 : gfOK 9 5 = true := by decide +kernel
theorem gf_9_6 : gfOK 9 6 = true := by decide +kernel
theorem gf_9_7 : gfOK 9 7 = true := by decide +kernel
theorem pf_9_129 : pfOK 9 129 = true := by decide +kernel
def xm_X9_count : List xbT := [(0, vb_X9_count_0, some 48), (48, vb_X9_count_48, some 56), (56, vb_X9_count_56, some 82), (82, vb_X9_count_82, some 96), (96, vb_X9_count_96, none)]
theorem xc_X9_count : xOK kd_X9_count xm_X9_count := ⟨ve_X9_count_0, ve_X9_count_48, ve_X9_count_56, ve_X9_count_82, ve_X9_count_96, trivial⟩
theorem xa_X9_count : xm_X9_count.all (fun q => aOKb q.2.1 && !q.2.1.isEmpty) = true := by decide +kernel
theorem xw_X9_count_0 {E : xE} {res : xR} {N : Nat} {hd : List Nat} {C : xCT} {k : Nat} {L : List Int} {st : List pv} {H : PH} : xW E res N kd_X9_count xm_X9_count hd C (k + 1) 0 L st H = xB (fun t L st H => if t ∈ hd then xJ E res N kd_X9_count t L st H else xW E res N kd_X9_count xm_X9_count hd C k t L st H) (REPR E res) C (some 48) vb_X9_count_0 0 L st H := Eq.trans rfl rfl
theorem xw_X9_count_48 {E : xE} {res : xR} {N : Nat} {hd : List Nat} {C : xCT} {k : Nat} {L : List Int} {st : List pv} {H : PH} : xW E res N kd_X9_count xm_X9_count hd C (k + 1) 48 L st H = xB (fun t L st H => if t ∈ hd then xJ E res N kd_X9_count t L st H else xW E res N kd_X9_count xm_X9_count hd C k t L st H) (REPR E res) C (some 56) vb_X9_count_48 48 L st H := Eq.trans rfl rfl
theorem xw_X9_count_56 {E : xE} {res : xR} {N : Nat} {hd : List Nat} {C : xCT} {k : Nat} {L : List Int} {st : List pv} {H : PH} : xW E res N kd_X9_count xm_X9_count hd C (k + 1) 56 L st H = xB (fun t L st H => if t ∈ hd then xJ E res N kd_X9_count t L st H else xW E res N kd_X9_count xm_X9_count hd C k t L st H) (REPR E res) C (some 82) vb_X9_count_56 56 L st H := Eq.trans rfl rfl
theorem xw_X9_count_82 {E : xE} {res : xR} {N : Nat} {hd : List Nat} {C : xCT} {k : Nat} {L : List Int} {st : List pv} {H : PH} : xW E res N kd_X9_count xm_X9_count hd C (k + 1) 82 L st H = xB (fun t L st H => if t ∈ hd then xJ E res N kd_X9_count t L st H else xW E res N kd_X9_count xm_X9_count hd C k t L st H) (REPR E res) C (some 96) vb_X9_count_82 82 L st H := Eq.trans rfl rfl
theorem xw_X9_count_96 {E : xE} {res : xR} {N : Nat} {hd : List Nat} {C : xCT} {k : Nat} {L : List Int} {st : List pv} {H : PH} : xW E res N kd_X9_count xm_X9_count hd C (k + 1) 96 L st H = xB (fun t L st H => if t ∈ hd then xJ E res N kd_X9_count t L st H else xW E res N kd_X9_count xm_X9_count hd C k t L st H) (REPR E res) C (none) vb_X9_count_96 96 L st H := Eq.trans rfl rfl
def xm_X9_refresh : List xbT := [(0, vb_X9_refresh_0, some 8), (8, vb_X9_refresh_8, some 20), (20, vb_X9_refresh_20, some 46), (46, vb_X9_refresh_46, some 48), (48, vb_X9_refresh_48, some 70), (70, vb_X9_refresh_70, some 72), (72, vb_X9_refresh_72, some 109), (109, vb_X9_refresh_109, some 110), (110, vb_X9_refresh_110, some 146), (146, vb_X9_refresh_146, none)]
theorem xc_X9_refresh : xOK kd_X9_refresh xm_X9_refresh := ⟨ve_X9_refresh_0, ve_X9_refresh_8, ve_X9_refresh_20, ve_X9_refresh_46, ve_X9_refresh_48, ve_X9_refresh_70, ve_X9_refresh_72, ve_X9_refresh_109, ve_X9_refresh_110, ve_X9_refresh_146, trivial⟩
theorem xa_X9_refresh : xm_X9_refresh.all (fun q => aOKb q.2.1 && !q.2.1.isEmpty) = true := by decide +kernel
theorem xw_X9_refresh_0 {E : xE} {res : xR} {N : Nat} {hd : List Nat} {C : xCT} {k : Nat} {L : List Int} {st : List pv} {H : PH} : xW E res N kd_X9_refresh xm_X9_refresh hd C (k + 1) 0 L st H = xB (fun t L st H => if t ∈ hd then xJ E res N kd_X9_refresh t L st H else xW E res N kd_X9_refresh xm_X9_refresh hd C k t L st H) (REPR E res) C (some 8) vb_X9_refresh_0 0 L st H := Eq.trans rfl rfl
theorem xw_X9_refresh_8 {E : xE} {res : xR} {N : Nat} {hd : List Nat} {C : xCT} {k : Nat} {L : List Int} {st : List pv} {H : PH} : xW E res N kd_X9_refresh xm_X9_refresh hd C (k + 1) 8 L st H = xB (fun t L st H => if t ∈ hd then xJ E res N kd_X9_refresh t L st H else xW E res N kd_X9_refresh xm_X9_refresh hd C k t L st H) (REPR E res) C (some 20) vb_X9_refresh_8 8 L st H := Eq.trans rfl rfl
theorem xw_X9_refresh_20 {E : xE} {res : xR} {N : Nat} {hd : List Nat} {C : xCT} {k : Nat} {L : List Int} {st : List pv} {H : PH} : xW E res N kd_X9_refresh xm_X9_refresh hd C (k + 1) 20 L st H = xB (fun t L st H => if t ∈ hd then xJ E res N kd_X9_refresh t L st H else xW E res N kd_X9_refresh xm_X9_refresh hd C k t L st H) (REPR E res) C (some 46) vb_X9_refresh_20 20 L st H := Eq.trans rfl rfl
theorem xw_X9_refresh_46 {E : xE} {res : xR} {N : Nat} {hd : List Nat} {C : xCT} {k : Nat} {L : List Int} {st : List pv} {H : PH} : xW E res N kd_X9_refresh xm_X9_refresh hd C (k + 1) 46 L st H = xB (fun t L st H => if t ∈ hd then xJ E res N kd_X9_refresh t L st H else xW E res N kd_X9_refresh xm_X9_refresh hd C k t L st H) (REPR E res) C (some 48) vb_X9_refresh_46 46 L st H := Eq.trans rfl rfl
theorem xw_X9_refresh_48 {E : xE} {res : xR} {N : Nat} {hd : List Nat} {C : xCT} {k : Nat} {L : List Int} {st : List pv} {H : PH} : xW E res N kd_X9_refresh xm_X9_refresh hd C (k + 1) 48 L st H = xB (fun t L st H => if t ∈ hd then xJ E res N kd_X9_refresh t L st H else xW E res N kd_X9_refresh xm_X9_refresh hd C k t L st H) (REPR E res) C (some 70) vb_X9_refresh_48 48 L st H := Eq.trans rfl rfl
theorem xw_X9_refresh_70 {E : xE} {res : xR} {N : Nat} {hd : List Nat} {C : xCT} {k : Nat} {L : List Int} {st : List pv} {H : PH} : xW E res N kd_X9_refresh xm_X9_refresh hd C (k + 1) 70 L st H = xB (fun t L st H => if t ∈ hd then xJ E res N kd_X9_refresh t L st H else xW E res N kd_X9_refresh xm_X9_refresh hd C k t L st H) (REPR E res) C (some 72) vb_X9_refresh_70 70 L st H := Eq.trans rfl rfl
theorem xw_X9_refresh_72 {E : xE} {res : xR} {N : Nat} {hd : List Nat} {C : xCT} {k : Nat} {L : List Int} {st : List pv} {H : PH} : xW E res N kd_X9_refresh xm_X9_refresh hd C (k + 1) 72 L st H = xB (fun t L st H => if t ∈ hd then xJ E res N kd_X9_refresh t L st H else xW E res N kd_X9_refresh xm_X9_refresh hd C k t L st H) (REPR E res) C (some 109) vb_X9_refresh_72 72 L st H := Eq.trans rfl rfl
theorem xw_X9_refresh_109 {E : xE} {res : xR} {N : Nat} {hd : List Nat} {C : xCT} {k : Nat} {L : List Int} {st : List pv} {H : PH} : xW E res N kd_X9_refresh xm_X9_refresh hd C (k + 1) 109 L st H = xB (fun t L st H => if t ∈ hd then xJ E res N kd_X9_refresh t L st H else xW E res N kd_X9_refresh xm_X9_refresh hd C k t L st H) (REPR E res) C (some 110) vb_X9_refresh_109 109 L st H := Eq.trans rfl rfl
theorem xw_X9_refresh_110 {E : xE} {res : xR} {N : Nat} {hd : List Nat} {C : xCT} {k : Nat} {L : List Int} {st : List pv} {H : PH} : xW E res N kd_X9_refresh xm_X9_refresh hd C (k + 1) 110 L st H = xB (fun t L st H => if t ∈ hd then xJ E res N kd_X9_refresh t L st H else xW E res N kd_X9_refresh xm_X9_refresh hd C k t L st H) (REPR E res) C (some 146) vb_X9_refresh_110 110 L st H := Eq.trans rfl rfl
theorem xw_X9_refresh_146 {E : xE} {res : xR} {N : Nat} {hd : List Nat} {C : xCT} {k : Nat} {L : List Int} {st : List pv} {H : PH} : xW E res N kd_X9_refresh xm_X9_refresh hd C (k + 1) 146 L st H = xB (fun t L st H => if t ∈ hd then xJ E res N kd_X9_refresh t L st H else xW E res N kd_X9_refresh xm_X9_refresh hd C k t L st H) (REPR E res) C (none) vb_X9_refresh_146 146 L st H := Eq.trans rfl rfl
theorem KZ_all : (List.range 622).all (fun c => !(Nat.beq (zSh c).1 4 || Nat.beq (zSh c).1 5) || (Nat.blt c 212 || Nat.blt 468 c)) = true := by decide +kernel
theorem KZ {c : Int} (h : KW c ∨ KL c) : c < 212 ∨ 468 < c := by
  have h0 : 0 ≤ c ∧ c < 622 ∧ ((zSh c.toNat).1 = 4 ∨ (zSh c.toNat).1 = 5) := by
    rcases h with h | h
    · exact ⟨h.1, h.2.1, Or.inl h.2.2⟩
    · exact ⟨h.1, h.2.1, Or.inr h.2.2⟩
  have g := List.all_eq_true.mp KZ_all c.toNat (List.mem_range.mpr (by omega))
  rcases h0.2.2 with e | e
  · rw [e] at g
    have g : (Nat.blt c.toNat 212 || Nat.blt 468 c.toNat) = true := g
    rw [Bool.or_eq_true, Nat.blt_eq, Nat.blt_eq] at g
    omega
  · rw [e] at g
    have g : (Nat.blt c.toNat 212 || Nat.blt 468 c.toNat) = true := g
    rw [Bool.or_eq_true, Nat.blt_eq, Nat.blt_eq] at g
    omega
theorem KL_16 {q : Int} (h : KL q) : (zSh (q + 1).toNat).1 = 16 := by
  obtain ⟨h0, h1, h2⟩ := h
  have g := List.all_eq_true.mp KL_b q.toNat (List.mem_range.mpr (by omega))
  rw [h2] at g
  simp only [Nat.beq_refl, Bool.not_true, Bool.false_or, Bool.and_eq_true, Nat.blt_eq] at g
  rw [show (q + 1).toNat = q.toNat + 1 by omega]
  exact Nat.eq_of_beq_eq_true g.1.2
/-- the class's state: bills, lines, couples, settings, law; what was measured; the cells of lines -/
def CI (H : PH) (A : Int → Int) : Prop := CR H A ∧ GCr H A ∧ LDi H
theorem CR_eq {H H' : PH} {A : Int → Int} (hB : MB A) (hD : LDi H) (hC : CR H A) (h1 : ∀ c, c ≤ 92 → ¬ c = 44 → ¬ c = 45 → ¬ c = 50 → ¬ c = 53 → H' c = H c) (h2 : ∀ q, KL q → ∀ i, ¬ i = 4 → H' q i = H q i) (h3 : ∀ w, KW w → H' w = H w ∧ H' (w + 1) = H (w + 1)) : CR H' A := by
  obtain ⟨a, b, c, d, e⟩ := hC
  have hA2 := hB.2.2.1
  have hA0 := hB.1
  have e1 : H' 1 = H 1 := h1 1 (by decide) (by decide) (by decide) (by decide) (by decide)
  have e47 : H' 47 = H 47 := h1 47 (by decide) (by decide) (by decide) (by decide) (by decide)
  refine ⟨?_, fun x x0 x1 => ?_, fun k k0 k1 => ?_, fun x y x0 x1 y0 y1 => ?_, ?_⟩
  · rw [e1, h1 2 (by decide) (by decide) (by decide) (by decide) (by decide)]
    exact a
  · have := b x x0 x1
    unfold BRr at this ⊢
    rw [h1 (57 + 3 * x) (by omega) (by omega) (by omega) (by omega) (by omega), h1 (57 + 3 * x + 1) (by omega) (by omega) (by omega) (by omega) (by omega), h1 (57 + 3 * x + 2) (by omega) (by omega) (by omega) (by omega) (by omega)]
    exact this
  · have := c k k0 k1
    unfold LNr at this ⊢
    have kq := hD.1 k k0 (by omega)
    rw [e47, h2 _ kq 0 (by decide), h2 _ kq 1 (by decide), h2 _ kq 2 (by decide), h2 _ kq 3 (by decide)]
    exact this
  · rw [h1 (4 + x) (by omega) (by omega) (by omega) (by omega) (by omega)]
    exact d x y x0 x1 y0 y1
  · unfold LWr at e ⊢
    rw [e1]
    obtain ⟨w1, w2⟩ := h3 _ e.1
    rw [w1, w2]
    exact e
theorem KW_no {w : Int} (h : KW w) : ¬ w = 44 ∧ ¬ w = 45 ∧ ¬ w + 1 = 44 ∧ ¬ w + 1 = 45 ∧ ¬ KL w ∧ ¬ KL (w + 1) ∧ (∀ q, KL q → ¬ q + 1 = w) := by
  have k : ∀ c : Int, (zSh c.toNat).1 ≠ 4 → ¬ w = c := fun c hc e => hc (e ▸ h.2.2)
  refine ⟨k 44 (by decide +kernel), k 45 (by decide +kernel), fun e => k 43 (by decide +kernel) (by omega), fun e => k 44 (by decide +kernel) (by omega), fun q => ?_, fun q => ?_, fun q hq e => ?_⟩
  · have := h.2.2
    have := q.2.2
    omega
  · have g : ∀ c : Nat, c < 622 → (zSh c).1 = 4 → ¬ (zSh (c + 1)).1 = 5 := by
      have : (List.range 622).all (fun c => !Nat.beq (zSh c).1 4 || !Nat.beq (zSh (c + 1)).1 5) = true := by decide +kernel
      intro c hc h4 h5
      have := List.all_eq_true.mp this c (List.mem_range.mpr hc)
      rw [h4, h5] at this
      cases this
    have h0 := h.1
    have h1 := h.2.1
    exact g w.toNat (by omega) h.2.2 (by rw [show w.toNat + 1 = (w + 1).toNat by omega]; exact q.2.2)
  · have := KL_16 hq
    rw [e] at this
    have := h.2.2
    omega
theorem CI_Z {H H' : PH} {A : Int → Int} (hB : MB A) (h : CI H A) (hz : ∀ c, ¬ (213 ≤ c ∧ c ≤ 467) → H' c = H c) : CI H' A := by
  obtain ⟨a, b, c⟩ := h
  have hA2 := hB.2.2.1
  have e47 : H' 47 = H 47 := hz 47 (by decide)
  refine ⟨CR_eq hB c a (fun x x1 _ _ _ _ => hz x (by omega)) (fun q hq i _ => by rw [hz q (by have := KZ (Or.inr hq); omega)]) (fun w hw => by have := KZ (Or.inl hw); exact ⟨hz w (by omega), hz _ (by omega)⟩), fun k k0 k1 => ?_, ?_⟩
  · have kq := c.1 k k0 (by omega)
    have := KZ (Or.inr kq)
    rw [e47, hz (H 47 k) (by omega), hz (H 47 k + 1) (by omega)]
    exact b k k0 k1
  · unfold LDi
    rw [e47]
    exact c
theorem CI_gaps {H H' : PH} {A : Int → Int} (hB : MB A) (h : CI H A) {k : Int} (hk : 0 ≤ k ∧ k < A 2) (g : GFr (H 47 k) H H') (g4 : H' (H 47 k) 4 = A 0) (gg : ∀ x, 0 ≤ x → x < A 0 → H' (H 47 k + 1) x = lapA A k x) : CI H' A := by
  obtain ⟨a, b, c⟩ := h
  have hA2 := hB.2.2.1
  have hA0 := hB.1
  have kq := c.1 k hk.1 (by omega)
  obtain ⟨l0, l1, l2, l3, l4⟩ := KL_in kq
  have e47 : H' 47 = H 47 := g.1 47 (by decide) (by decide) (by omega) (by omega)
  refine ⟨CR_eq hB c a (fun x x1 x2 x3 _ _ => g.1 x x2 x3 (by omega) (by omega)) (fun q hq i hi => ?_) (fun w hw => ?_), fun j j0 j1 => ?_, ?_⟩
  · by_cases e : q = H 47 k
    · rw [e]
      exact g.2 i hi
    · have := KL_in hq
      rw [g.1 q (by omega) (by omega) e (fun e => l2 (e ▸ hq))]
  · obtain ⟨n1, n2, n3, n4, n5, n6, n7⟩ := KW_no hw
    exact ⟨g.1 w n1 n2 (fun e => n5 (e ▸ kq)) (fun e => n7 _ kq e.symm), g.1 _ n3 n4 (fun e => n6 (e ▸ kq)) (fun e => n5 (by rw [show w = H 47 k by omega]; exact kq))⟩
  · rw [e47]
    by_cases e : j = k
    · rw [e, g4]
      exact ⟨⟨hA0.1, Int.le_refl _⟩, fun x x0 x1 _ => gg x x0 x1⟩
    · have kj := c.1 j j0 (by omega)
      have ne : ¬ H 47 j = H 47 k := fun q => e (c.2 j k j0 (by omega) hk.1 (by omega) q)
      obtain ⟨m0, m1, m2, m3, m4⟩ := KL_in kj
      rw [g.1 (H 47 j) (by omega) (by omega) ne (fun q => l2 (q ▸ kj)), g.1 (H 47 j + 1) (by omega) (by omega) (fun q => m2 (q ▸ kq)) (by omega)]
      exact b j j0 j1
  · unfold LDi
    rw [e47]
    exact c
/-- what the class's tallies hold of this -/
def TC (t : tS) (H : PH) : Prop := H 215 4 = t.1 ∧ (∀ h, 0 ≤ h → h < t.1 → H 217 h = t.2.1 h) ∧ (∀ x, 0 ≤ x → x < 72 → H 218 x = t.2.2.1 x) ∧ (∀ x, 0 ≤ x → x < 72 → H 219 x = t.2.2.2 x)
/-- lines that aren't among the told ones stay as they are -/
def LX (H H' : PH) : Prop := H' 1 4 = H 1 4 ∧ H' 47 = H 47 ∧ ∀ q, KL q → (∀ k, 0 ≤ k → k < H 1 4 → ¬ q = H 47 k) → H' q 4 = H q 4 ∧ H' (q + 1) = H (q + 1)
theorem LX_refl {H : PH} : LX H H := ⟨rfl, rfl, fun _ _ _ => ⟨rfl, rfl⟩⟩
theorem LX_trans {H H1 H2 : PH} (a : LX H H1) (b : LX H1 H2) : LX H H2 := ⟨b.1.trans a.1, b.2.1.trans a.2.1, fun q hq h => by
  have g := b.2.2 q hq (fun k k0 k1 => by rw [a.2.1]; rw [a.1] at k1; exact h k k0 k1)
  have f := a.2.2 q hq h
  exact ⟨g.1.trans f.1, g.2.trans f.2⟩⟩
theorem LX_Z {H H' : PH} (g : ∀ c, ¬ (213 ≤ c ∧ c ≤ 467) → H' c = H c) : LX H H' := ⟨by rw [g 1 (by decide)], g 47 (by decide), fun q hq _ => by
  have z := KZ (Or.inr hq)
  rw [g q (by omega), g (q + 1) (by omega)]
  exact ⟨rfl, rfl⟩⟩
theorem LX_up {H : PH} {c i v : Int} (hc : 213 ≤ c ∧ c ≤ 467) : LX H (pup H c i v) := LX_Z (fun d hd => xp_ne (by omega))
theorem LX_g {H H' : PH} {k : Int} (hk : 0 ≤ k ∧ k < H 1 4) (hq : KL (H 47 k)) (g : GFr (H 47 k) H H') : LX H H' := by
  obtain ⟨l0, l1, l2, l3, l4⟩ := KL_in hq
  refine ⟨by rw [g.1 1 (by decide) (by decide) (by omega) (by omega)], g.1 47 (by decide) (by decide) (by omega) (by omega), fun q hq2 h => ?_⟩
  have n := h k hk.1 hk.2
  obtain ⟨m0, m1, m2, m3, m4⟩ := KL_in hq2
  rw [g.1 q (by omega) (by omega) n (fun e => l2 (e ▸ hq2)), g.1 (q + 1) (by omega) (by omega) (fun e => m2 (e ▸ hq)) (by omega)]
  exact ⟨rfl, rfl⟩
/-- the tallies and lines apart, what is left as it is -/
def TF (H H' : PH) : Prop := (∀ c, ¬ c = 44 → ¬ c = 45 → ¬ c = 50 → ¬ c = 53 → ¬ KL c → ¬ KL (c - 1) → ¬ KW (c - 2) → ¬ (215 ≤ c ∧ c ≤ 220) → H' c = H c) ∧ (∀ i, ¬ i = 4 → H' 215 i = H 215 i) ∧ (∀ q, KL q → ∀ i, ¬ i = 4 → H' q i = H q i) ∧ LX H H'
theorem TF_refl {H : PH} : TF H H := ⟨fun _ _ _ _ _ _ _ _ _ => rfl, fun _ _ => rfl, fun _ _ _ _ => rfl, LX_refl⟩
theorem TF_trans {H H1 H2 : PH} (a : TF H H1) (b : TF H1 H2) : TF H H2 := ⟨fun c h1 h2 h3 h4 h5 h6 h7 h8 => (b.1 c h1 h2 h3 h4 h5 h6 h7 h8).trans (a.1 c h1 h2 h3 h4 h5 h6 h7 h8), fun i h1 => (b.2.1 i h1).trans (a.2.1 i h1), fun q hq i hi => (b.2.2.1 q hq i hi).trans (a.2.2.1 q hq i hi), LX_trans a.2.2.2 b.2.2.2⟩
theorem TF_up {H : PH} {c i v : Int} (hc : 216 ≤ c ∧ c ≤ 220) : TF H (pup H c i v) := ⟨fun d _ _ _ _ _ _ _ h => xp_ne (by omega), fun j _ => congrFun (xp_ne (by omega)) j, fun q hq j _ => congrFun (xp_ne (by have := KZ (Or.inr hq); omega)) j, LX_up (by omega)⟩
theorem TF_fd {H : PH} {v : Int} : TF H (pup H 215 4 v) := ⟨fun d _ _ _ _ _ _ _ h => xp_ne (by omega), fun j a => by rw [xp_at, if_neg (by omega)], fun q hq j _ => congrFun (xp_ne (by have := KZ (Or.inr hq); omega)) j, LX_up (by decide)⟩
theorem TF_g {H H' : PH} {q k : Int} (hk : 0 ≤ k ∧ k < H 1 4) (ek : q = H 47 k) (hq : KL q) (g : GFr q H H') : TF H H' := by
  obtain ⟨l0, l1, l2, l3, l4⟩ := KL_in hq
  have z := KZ (Or.inr hq)
  refine ⟨fun c h1 h2 _ _ h5 h6 _ _ => g.1 c h1 h2 (fun e => h5 (e ▸ hq)) (fun e => h6 (by rw [show c - 1 = q by omega]; exact hq)), fun i _ => by rw [g.1 215 (by decide) (by decide) (by omega) (by omega)], fun p hp i hi => ?_, LX_g hk (ek ▸ hq) (ek ▸ g)⟩
  by_cases e : p = q
  · rw [e]
    exact g.2 i hi
  · have := KL_in hp
    rw [g.1 p (by omega) (by omega) e (fun e => l2 (e ▸ hp))]
