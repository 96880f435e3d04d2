/-! ===== settled: which bill each is read as ===== -/
def fnd (D τ : Int → Int) (k : Int) : Nat → Int → Int
  | 0, _ => -1
  | n + 1, i => if D i = k then τ i else fnd D τ k n (i + 1)
/-- what settled answers -/
def STa (A : Int → Int) (k v : Int) : Prop := if 1 ≤ (dbZ A).1 ∧ (dbZ A).1 ≤ 5 then ∃ τ, fst1 A (dL A) (dN A) τ ∧ v = (if k = -1 then toS A (dL A) τ (dN A) else fnd (dL A) τ k (dN A) 0) else v = -1
theorem fnd_eq {D τ σ : Int → Int} {k : Int} : ∀ (n : Nat) (i : Int), (∀ j, i ≤ j → j < i + n → τ j = σ j) → fnd D τ k n i = fnd D σ k n i
  | 0, _, _ => rfl
  | n + 1, i, h => by
    unfold fnd
    rw [h i (by omega) (by omega), fnd_eq n (i + 1) (fun j a b => h j (by omega) (by omega))]
theorem STa_uniq {A : Int → Int} {k v w : Int} (h : STa A k v) (g : STa A k w) : v = w := by
  unfold STa at h g
  by_cases c : 1 ≤ (dbZ A).1 ∧ (dbZ A).1 ≤ 5
  · rw [if_pos c] at h g
    obtain ⟨τ, t, rfl⟩ := h
    obtain ⟨σ, s, rfl⟩ := g
    obtain ⟨e1, e2⟩ := fst1_uniq t s
    by_cases q : k = -1
    · rw [if_pos q, if_pos q]
      exact e1
    · rw [if_neg q, if_neg q]
      exact fnd_eq _ _ (fun j j0 j1 => e2 j j0 (by omega))
  · rw [if_neg c] at h g
    rw [h, g]
theorem alO_bit {al : Nat → Nat} {i only b l : Nat} (h32 : al b < 32) (hi : i < 5) (hl : l < 5) : (alO al i only b).testBit l = true ↔ (((al b).testBit l = true ∧ ¬ l = i) ∨ (l = i ∧ b = only)) := by
  obtain ⟨c1, c2⟩ := clr_bit (a := al b) (i := i) (j := l) h32 hi hl
  unfold alO
  by_cases e : b = only
  · rw [if_pos e, c2]
    exact ⟨fun w => w.elim Or.inl (fun x => Or.inr ⟨x, e⟩), fun w => w.elim Or.inl (fun x => Or.inr x.1)⟩
  · rw [if_neg e, c1]
    exact ⟨Or.inl, fun w => w.elim id (fun x => absurd x.2 e)⟩
theorem alO_32 {al : Nat → Nat} {i only b : Nat} (h32 : al b < 32) (hi : i < 5) : alO al i only b < 32 := by
  have c := clr_T (a := (al b : Int)) (i := (i : Int)) (by omega) (by omega)
  rw [Int.toNat_natCast, Int.toNat_natCast] at c
  unfold alO
  by_cases e : b = only
  · rw [if_pos e]
    exact c.2.2
  · rw [if_neg e]
    exact c.2.1
theorem al0_bit {A : Int → Int} {b l : Nat} : (al0 A b).testBit l = true ↔ (l < dN A ∧ nrB A (dL A l) b = true) := by
  unfold al0
  rw [mkN_bit]
  simp only [Bool.and_eq_true, decide_eq_true_eq]
/-- the first ones are fixed, the others are as near as may be; of one nothing is said -/
def AP (A σ0 : Int → Int) (i : Int) (al : Nat → Nat) : Prop := (∀ b : Nat, (b : Int) < A 0 → al b < 32 ∧ al b &&& al0 A b = al b) ∧ ∀ b l : Nat, (b : Int) < A 0 → l < dN A → ¬ (l : Int) = i → ((al b).testBit l = true ↔ (nrB A (dL A l) b = true ∧ ((l : Int) < i → (b : Int) = σ0 l)))
theorem AP_alO {A σ0 : Int → Int} {al : Nat → Nat} {i b0 : Nat} (h5 : dN A ≤ 5) (hi : i < dN A) (nr : nrB A (dL A i) b0 = true) (h : AP A σ0 i al) : AP A σ0 i (alO al i b0) ∧ ∀ b : Nat, (b : Int) < A 0 → ((alO al i b0 b).testBit i = true ↔ b = b0) := by
  obtain ⟨h1, h2⟩ := h
  refine ⟨⟨fun b hb => ⟨alO_32 (h1 b hb).1 (by omega), sub_of (fun l hl => ?_)⟩, fun b l hb hl hn => ?_⟩, fun b hb => ?_⟩
  · have l5 : l < 5 := bit_lt (d := 5) (alO_32 (h1 b hb).1 (by omega)) hl
    rw [alO_bit (h1 b hb).1 (by omega) l5] at hl
    rcases hl with ⟨w, _⟩ | ⟨w, e⟩
    · exact sub_b (h1 b hb).2 w
    · rw [w, al0_bit, e]
      exact ⟨hi, nr⟩
  · rw [alO_bit (h1 b hb).1 (by omega) (by omega), ← h2 b l hb hl hn]
    exact ⟨fun w => w.elim And.left (fun x => absurd (by omega) hn), fun w => Or.inl ⟨w, fun e => hn (by omega)⟩⟩
  · rw [alO_bit (h1 b hb).1 (by omega) (by omega)]
    exact ⟨fun w => w.elim (fun x => absurd rfl x.2) And.right, fun w => Or.inr ⟨rfl, w⟩⟩
theorem rsA_of {A σ0 τ : Int → Int} {al : Nat → Nat} {i b0 : Nat} (hi : i < dN A) (nr : nrB A (dL A i) b0 = true) (h : AP A σ0 i al) (hb : ∀ b : Nat, (b : Int) < A 0 → ((al b).testBit i = true ↔ b = b0)) : rsA A (dN A) al τ ↔ (rsp A (dL A) (dN A) τ ∧ (∀ l, 0 ≤ l → l < (i : Int) → τ l = σ0 l) ∧ τ i = b0) := by
  constructor
  · intro w
    have wi := w i hi
    have ei : τ i = b0 := by
      have := (hb (τ i).toNat (by omega)).mp wi.2
      omega
    refine ⟨fun l l0 l1 => ?_, fun l l0 l1 => ?_, ei⟩
    · have wl := w l.toNat (by omega)
      rw [show ((l.toNat : Nat) : Int) = l by omega] at wl
      refine ⟨wl.1, ?_⟩
      by_cases e : l = i
      · rw [e, ei]
        exact nr
      · have := ((h.2 (τ l).toNat l.toNat (by omega) (by omega) (by omega)).mp wl.2).1
        rw [show ((l.toNat : Nat) : Int) = l by omega, show (((τ l).toNat : Nat) : Int) = τ l by omega] at this
        exact this
    · have wl := w l.toNat (by omega)
      rw [show ((l.toNat : Nat) : Int) = l by omega] at wl
      have := ((h.2 (τ l).toNat l.toNat (by omega) (by omega) (by omega)).mp wl.2).2 (by omega)
      rw [show ((l.toNat : Nat) : Int) = l by omega] at this
      omega
  · rintro ⟨r, p, ei⟩ l hl
    have rl := r l (by omega) (by omega)
    refine ⟨rl.1, ?_⟩
    by_cases e : l = i
    · rw [e] at rl ⊢
      exact (hb (τ i).toNat (by omega)).mpr (by omega)
    · refine (h.2 (τ l).toNat l (by omega) hl (by omega)).mpr ⟨?_, fun x => ?_⟩
      · rw [show (((τ l).toNat : Nat) : Int) = τ l by omega]
        exact rl.2
      · rw [← p l (by omega) x]
        omega
theorem min_b {A σ0 : Int → Int} {al : Nat → Nat} {i b0 : Nat} (hB : MB A) (hX : OKX A) (h5 : dN A ≤ 5) (hi : i < dN A) (nr : nrB A (dL A i) b0 = true) (f : fst1 A (dL A) (dN A) σ0) (h : AP A σ0 i al) (hb : ∀ b : Nat, (b : Int) < A 0 → ((al b).testBit i = true ↔ b = b0)) : ((b0 : Int) = σ0 i → dpA A (dL A) (dN A) al (A 0).toNat (pw2 (dN A) - 1) = toS A (dL A) σ0 (dN A)) ∧ ((b0 : Int) < σ0 i → ¬ dpA A (dL A) (dN A) al (A 0).toNat (pw2 (dN A) - 1) = toS A (dL A) σ0 (dN A)) := by
  show ((b0 : Int) = σ0 i → dpA A (dL A) (dN A) al (A 0).toNat (2 ^ dN A - 1) = toS A (dL A) σ0 (dN A)) ∧ ((b0 : Int) < σ0 i → ¬ dpA A (dL A) (dN A) al (A 0).toNat (2 ^ dN A - 1) = toS A (dL A) σ0 (dN A))
  have a0 := hB.1
  have dd := (dN_in hB h5).1
  have bd := toS_bd (σ := σ0) hB hX (show dN A ≤ 60 by omega) dd
  have ex := lia_ex (A := A) (D := dL A) (d := dN A) al h5 a0.1 (fun b hb u => (cuS_in hB hX h5 dd ⟨by omega, by omega⟩ u).1)
  have iff := fun τ => rsA_of (τ := τ) hi nr h hb
  constructor
  · intro e
    have le := lia_le (A := A) (D := dL A) (d := dN A) al h5 a0.1 ((iff σ0).mpr ⟨f.1, fun _ _ _ => rfl, e.symm⟩)
    rcases ex with ex | ⟨τ, t1, t2⟩
    · omega
    · rcases f.2 τ ((iff τ).mp t1).1 with w | ⟨w, _⟩ <;> omega
  · intro lt eq
    rcases ex with ex | ⟨τ, t1, t2⟩
    · omega
    · obtain ⟨r1, r2, r3⟩ := (iff τ).mp t1
      rcases f.2 τ r1 with w | ⟨_, w | ⟨j, j0, j1, j2, j3⟩⟩
      · omega
      · have := w i (by omega) (by omega)
        omega
      · rcases Int.lt_trichotomy j i with q | q | q
        · have := r2 j j0 q
          omega
        · rw [q] at j3
          omega
        · have := j2 i (by omega) q
          omega
theorem AP_next {A σ0 : Int → Int} {al : Nat → Nat} {i b0 : Nat} (hi : i < dN A) (e0 : (b0 : Int) = σ0 i) (nr : nrB A (dL A i) b0 = true) (h : AP A σ0 i al) (hb : ∀ b : Nat, (b : Int) < A 0 → ((al b).testBit i = true ↔ b = b0)) : AP A σ0 ((i : Int) + 1) al := by
  refine ⟨h.1, fun b l hb' hl hn => ?_⟩
  by_cases e : l = i
  · rw [e, hb b hb']
    exact ⟨fun w => ⟨by rw [w]; exact nr, fun _ => by rw [w]; exact e0⟩, fun w => by
      have := w.2 (by omega)
      omega⟩
  · rw [h.2 b l hb' hl (by omega)]
    exact ⟨fun w => ⟨w.1, fun x => w.2 (by omega)⟩, fun w => ⟨w.1, fun x => w.2 (by omega)⟩⟩
theorem AP_0 {A σ0 : Int → Int} (h5 : dN A ≤ 5) : AP A σ0 0 (al0 A) := ⟨fun b _ => ⟨Nat.lt_of_lt_of_le (mkN_lt _ _) (p32 h5), Nat.and_self _⟩, fun b l hb hl hn => by
  rw [al0_bit]
  exact ⟨fun w => ⟨w.2, fun x => by omega⟩, fun w => ⟨hl, w.1⟩⟩⟩
theorem AP_SBA {A σ0 : Int → Int} {i : Int} {al : Nat → Nat} (h : AP A σ0 i al) : SBA A al := fun b hb => (h.1 b hb).2
theorem rs0 {A τ : Int → Int} : rsA A (dN A) (al0 A) τ ↔ rsp A (dL A) (dN A) τ := by
  constructor
  · intro w l l0 l1
    have := w l.toNat (by omega)
    rw [show ((l.toNat : Nat) : Int) = l by omega] at this
    refine ⟨this.1, ?_⟩
    have b := (al0_bit.mp this.2).2
    rw [show ((l.toNat : Nat) : Int) = l by omega, show (((τ l).toNat : Nat) : Int) = τ l by omega] at b
    exact b
  · intro w l hl
    have := w l (by omega) (by omega)
    refine ⟨this.1, al0_bit.mpr ⟨hl, ?_⟩⟩
    rw [show (((τ l).toNat : Nat) : Int) = τ l by omega]
    exact this.2
theorem min_0 {A σ0 : Int → Int} (hB : MB A) (hX : OKX A) (h5 : dN A ≤ 5) (f : fst1 A (dL A) (dN A) σ0) : dpA A (dL A) (dN A) (al0 A) (A 0).toNat (pw2 (dN A) - 1) = toS A (dL A) σ0 (dN A) := by
  show dpA A (dL A) (dN A) (al0 A) (A 0).toNat (2 ^ dN A - 1) = toS A (dL A) σ0 (dN A)
  have a0 := hB.1
  have dd := (dN_in hB h5).1
  have bd := toS_bd (σ := σ0) hB hX (show dN A ≤ 60 by omega) dd
  have ex := lia_ex (A := A) (D := dL A) (d := dN A) (al0 A) h5 a0.1 (fun b hb u => (cuS_in hB hX h5 dd ⟨by omega, by omega⟩ u).1)
  have le := lia_le (A := A) (D := dL A) (d := dN A) (al0 A) h5 a0.1 (rs0.mpr f.1)
  rcases ex with ex | ⟨τ, t1, t2⟩
  · omega
  · rcases f.2 τ (rs0.mp t1) with w | ⟨w, _⟩ <;> omega
theorem dbS_mono (A : Int → Int) : ∀ (m k : Nat), (dbS A k).1 ≤ (dbS A (k + m)).1
  | 0, _ => Int.le_refl _
  | m + 1, k => by
    have ih := dbS_mono A m k
    have e : (dbS A (k + m)).1 ≤ (dbS A (k + m + 1)).1 := by
      rw [dbS_S]
      split
      · show (dbS A (k + m)).1 ≤ (dbS A (k + m)).1 + 1
        omega
      · exact Int.le_refl _
    rw [show k + (m + 1) = k + m + 1 by omega]
    omega
set_option maxRecDepth 100000 in
theorem lp_fixA (i : Int) (S : Int → Int → Int) (N : Int) (σ0 : Int → Int) (H0 : PH) (h5 : dN (S 0) ≤ 5) (hi : 0 ≤ i ∧ i < (dN (S 0) : Int)) (f : fst1 (S 0) (dL (S 0)) (dN (S 0)) σ0) {E : xE} {res : xR} : ∀ (n : Nat) (b : Int) (H : PH) (al : Nat → Nat), 0 ≤ b → b ≤ σ0 i → SQ H0 H S N → SY (S 0) al H → AP (S 0) σ0 i al → RUN E res n kd_X7_fixFirst (zget kd_X7_fixFirst 2) 2 [451, i, toS (S 0) (dL (S 0)) σ0 (dN (S 0)), b] [] H → ∃ H' al', SQ H0 H' S N ∧ SY (S 0) al' H' ∧ AP (S 0) σ0 (i + 1) al' ∧ REPR E res (some (0, σ0 i)) H' := by
  have fi := f.1 i hi.1 hi.2
  have i1 : i.toNat < dN (S 0) := by omega
  have ii : ((i.toNat : Nat) : Int) = i := by omega
  intro n
  induction n using Nat.strongRecOn with
  | _ n ih =>
    intro b H al b0 b1 hQ hY hP h
    have ok := RC_sz hQ.1.1
    have a0 := ok.1.1
    have e2 : H 1 2 = S 0 0 := hQ.1.1.1.1.1.1.symm
    have z1 : zw (b + 1) = b + 1 := zw_lit (by omega) (by omega)
    have c : b < S 0 0 := by omega
    have c' : ¬ S 0 0 ≤ b := by omega
    have bb : ((b.toNat : Nat) : Int) = b := by omega
    have h := xw_top (hd := [2]) 6 xD6_ok xc_X7_fixFirst xa_X7_fixFirst (t := 2) rfl h
    simp (maxDischargeDepth := 12) -implicitDefEqProofs [vb_X7_fixFirst_0, vb_X7_fixFirst_2, vb_X7_fixFirst_38, vb_X7_fixFirst_44, xI_0, xI_1, xI_3, xI_6, xI_7, xI_36, xI_37, xI_44, xI_46, xI_49, xI_61, xI_62, xw_X7_fixFirst_0, xw_X7_fixFirst_2, xw_X7_fixFirst_38, xw_X7_fixFirst_44, zw_lit, xB_c, xB_s, xB_n, i1_c, j2_c, k1_c, jJ_e, xlg, xls, xla, xpd, ppush, zw_m1, zw_m2, zw_m3, gf_1_2, gf_7_0, tg_1_2, tg_7_0, gv_1_2, gv_451_0, xD1, xD2, xD3, xD4, xD5, xD6, xb1_0, e2, c, c'] at h
    obtain ⟨r, H1, ⟨rfl, q1, f1⟩, g⟩ := xc_use h (sp_c_isNearest i b S N H0 H hQ hY.1 h5 hi ⟨b0, c⟩)
    have y1 := SY_fs ok.1 f1 hY
    by_cases nr : nrB (S 0) (dL (S 0) i) b = true
    · rw [if_pos nr] at g
      simp (maxDischargeDepth := 12) -implicitDefEqProofs [vb_X7_fixFirst_0, vb_X7_fixFirst_2, vb_X7_fixFirst_38, vb_X7_fixFirst_44, xI_0, xI_1, xI_3, xI_6, xI_7, xI_36, xI_37, xI_44, xI_46, xI_49, xI_61, xI_62, xw_X7_fixFirst_0, xw_X7_fixFirst_2, xw_X7_fixFirst_38, xw_X7_fixFirst_44, zw_lit, xB_c, xB_s, xB_n, i1_c, j2_c, k1_c, jJ_e, xlg, xls, xla, xpd, ppush, zw_m1, zw_m2, zw_m3, gf_1_2, gf_7_0, tg_1_2, tg_7_0, gv_1_2, gv_451_0, xD1, xD2, xD3, xD4, xD5, xD6, xb1_0] at g
      obtain ⟨r, H2, ⟨rfl, q2, y2⟩, g⟩ := xc_use g (sp_c_allowOnly i b S N al H0 H1 ⟨hi.1, by omega⟩ ⟨b0, c⟩ q1 y1)
      obtain ⟨p2, b2⟩ := AP_alO (A := S 0) (σ0 := σ0) (al := al) (i := i.toNat) (b0 := b.toNat) h5 i1 (by rw [ii, bb]; exact nr) (by rw [ii]; exact hP)
      simp (maxDischargeDepth := 12) -implicitDefEqProofs [vb_X7_fixFirst_0, vb_X7_fixFirst_2, vb_X7_fixFirst_38, vb_X7_fixFirst_44, xI_0, xI_1, xI_3, xI_6, xI_7, xI_36, xI_37, xI_44, xI_46, xI_49, xI_61, xI_62, xw_X7_fixFirst_0, xw_X7_fixFirst_2, xw_X7_fixFirst_38, xw_X7_fixFirst_44, zw_lit, xB_c, xB_s, xB_n, i1_c, j2_c, k1_c, jJ_e, xlg, xls, xla, xpd, ppush, zw_m1, zw_m2, zw_m3, gf_1_2, gf_7_0, tg_1_2, tg_7_0, gv_1_2, gv_451_0, xD1, xD2, xD3, xD4, xD5, xD6, xb1_0] at g
      obtain ⟨r, H3, ⟨rfl, q3, y3⟩, g⟩ := xc_use g (sp_c_leastInAll S N (alO al i.toNat b.toNat) H0 H2 h5 (AP_SBA p2) q2 y2)
      obtain ⟨m1, m2⟩ := min_b ok.1 ok.2.2.2 h5 i1 (by rw [ii, bb]; exact nr) f p2 b2
      rw [ii, bb] at m1 m2
      by_cases e : b = σ0 i
      · have ev := m1 e
        rw [ev] at g
        simp (maxDischargeDepth := 12) -implicitDefEqProofs [vb_X7_fixFirst_0, vb_X7_fixFirst_2, vb_X7_fixFirst_38, vb_X7_fixFirst_44, xI_0, xI_1, xI_3, xI_6, xI_7, xI_36, xI_37, xI_44, xI_46, xI_49, xI_61, xI_62, xw_X7_fixFirst_0, xw_X7_fixFirst_2, xw_X7_fixFirst_38, xw_X7_fixFirst_44, zw_lit, xB_c, xB_s, xB_n, i1_c, j2_c, k1_c, jJ_e, xlg, xls, xla, xpd, ppush, zw_m1, zw_m2, zw_m3, gf_1_2, gf_7_0, tg_1_2, tg_7_0, gv_1_2, gv_451_0, xD1, xD2, xD3, xD4, xD5, xD6, xb1_0] at g
        refine ⟨H3, _, q3, y3, ?_, by rw [← e]; exact g⟩
        have := AP_next i1 (by rw [ii, bb]; exact e) (by rw [ii, bb]; exact nr) p2 b2
        rw [ii] at this
        exact this
      · have ev := m2 (by omega)
        simp (maxDischargeDepth := 12) -implicitDefEqProofs [vb_X7_fixFirst_0, vb_X7_fixFirst_2, vb_X7_fixFirst_38, vb_X7_fixFirst_44, xI_0, xI_1, xI_3, xI_6, xI_7, xI_36, xI_37, xI_44, xI_46, xI_49, xI_61, xI_62, xw_X7_fixFirst_0, xw_X7_fixFirst_2, xw_X7_fixFirst_38, xw_X7_fixFirst_44, zw_lit, xB_c, xB_s, xB_n, i1_c, j2_c, k1_c, jJ_e, xlg, xls, xla, xpd, ppush, zw_m1, zw_m2, zw_m3, gf_1_2, gf_7_0, tg_1_2, tg_7_0, gv_1_2, gv_451_0, xD1, xD2, xD3, xD4, xD5, xD6, xb1_0, ev, z1] at g
        obtain ⟨m, hm, g⟩ := g
        exact ih m hm (b + 1) H3 _ (by omega) (by omega) q3 y3 (by rw [ii] at p2; exact p2) g
    · rw [if_neg nr] at g
      have ne : ¬ b = σ0 i := fun e => nr (by rw [e]; exact fi.2)
      simp (maxDischargeDepth := 12) -implicitDefEqProofs [vb_X7_fixFirst_0, vb_X7_fixFirst_2, vb_X7_fixFirst_38, vb_X7_fixFirst_44, xI_0, xI_1, xI_3, xI_6, xI_7, xI_36, xI_37, xI_44, xI_46, xI_49, xI_61, xI_62, xw_X7_fixFirst_0, xw_X7_fixFirst_2, xw_X7_fixFirst_38, xw_X7_fixFirst_44, zw_lit, xB_c, xB_s, xB_n, i1_c, j2_c, k1_c, jJ_e, xlg, xls, xla, xpd, ppush, zw_m1, zw_m2, zw_m3, gf_1_2, gf_7_0, tg_1_2, tg_7_0, gv_1_2, gv_451_0, xD1, xD2, xD3, xD4, xD5, xD6, xb1_0, z1] at g
      obtain ⟨m, hm, g⟩ := g
      exact ih m hm (b + 1) H1 al (by omega) (by omega) q1 y1 hP g
set_option maxRecDepth 100000 in
theorem sp_c_fixFirst (i : Int) (S : Int → Int → Int) (n : Int) (σ0 : Int → Int) (H0 H : PH) (al : Nat → Nat) (h5 : dN (S 0) ≤ 5) (hi : 0 ≤ i ∧ i < (dN (S 0) : Int)) (f : fst1 (S 0) (dL (S 0)) (dN (S 0)) σ0) (hQ : SQ H0 H S n) (hY : SY (S 0) al H) (hP : AP (S 0) σ0 i al) : SPEC 70 [(2, 451), (0, i), (0, toS (S 0) (dL (S 0)) σ0 (dN (S 0)))] H (fun r H' => r = some (0, σ0 i) ∧ SQ H0 H' S n ∧ ∃ al', SY (S 0) al' H' ∧ AP (S 0) σ0 (i + 1) al') := by
  intro E n' res h
  have fi := f.1 i hi.1 hi.2
  have h := call_runP 4 vm_X7_fixFirst h
  have h := xw_top (hd := [2]) 6 xD6_ok xc_X7_fixFirst xa_X7_fixFirst (t := 0) rfl h
  simp (maxDischargeDepth := 12) -implicitDefEqProofs [vb_X7_fixFirst_0, vb_X7_fixFirst_2, vb_X7_fixFirst_38, vb_X7_fixFirst_44, xI_0, xI_1, xI_3, xI_6, xI_7, xI_36, xI_37, xI_44, xI_46, xI_49, xI_61, xI_62, xw_X7_fixFirst_0, xw_X7_fixFirst_2, xw_X7_fixFirst_38, xw_X7_fixFirst_44, zw_lit, xB_c, xB_s, xB_n, i1_c, j2_c, k1_c, jJ_e, xlg, xls, xla, xpd, ppush, zw_m1, zw_m2, zw_m3, gf_1_2, gf_7_0, tg_1_2, tg_7_0, gv_1_2, gv_451_0, xD1, xD2, xD3, xD4, xD5, xD6, xb1_0] at h
  obtain ⟨m, hm, h⟩ := h
  obtain ⟨H', al', k1, k2, k3, k4⟩ := lp_fixA i S n σ0 H0 h5 hi f m 0 H al (by decide) fi.1.1 hQ hY hP h
  exact ⟨_, H', k4, rfl, k1, al', k2, k3⟩
set_option maxRecDepth 100000 in
theorem lp_bfoA (k : Int) (S : Int → Int → Int) (N : Int) (σ0 : Int → Int) (H0 : PH) (h5 : dN (S 0) ≤ 5) (f : fst1 (S 0) (dL (S 0)) (dN (S 0)) σ0) {E : xE} {res : xR} : ∀ (n : Nat) (i x : Int) (H : PH) (al : Nat → Nat), 0 ≤ i → i ≤ (dN (S 0) : Int) → SQ H0 H S N → SY (S 0) al H → AP (S 0) σ0 i al → RUN E res n kd_X7_billFor (zget kd_X7_billFor 7) 7 [451, k, toS (S 0) (dL (S 0)) σ0 (dN (S 0)), i, x] [] H → ∃ H', SQ H0 H' S N ∧ REPR E res (some (0, fnd (dL (S 0)) σ0 k (dN (S 0) - i).toNat i)) H' := by
  intro n
  induction n using Nat.strongRecOn with
  | _ n ih =>
    intro i x H al i0 i1 hQ hY hP h
    have e3 := hY.1.1
    have z1 : zw (i + 1) = i + 1 := zw_lit (by omega) (by omega)
    by_cases c : i < (dN (S 0) : Int)
    · have c' : ¬ (dN (S 0) : Int) ≤ i := by omega
      rw [show (dN (S 0) - i).toNat = (dN (S 0) - (i + 1)).toNat + 1 by omega]
      unfold fnd
      have h := xw_top (hd := [7]) 6 xD6_ok xc_X7_billFor xa_X7_billFor (t := 7) rfl h
      simp (maxDischargeDepth := 12) -implicitDefEqProofs [vb_X7_billFor_0, vb_X7_billFor_7, vb_X7_billFor_36, vb_X7_billFor_42, xI_0, xI_1, xI_3, xI_6, xI_7, xI_36, xI_44, xI_46, xI_49, xI_51, xI_61, xI_62, xw_X7_billFor_0, xw_X7_billFor_7, xw_X7_billFor_36, xw_X7_billFor_42, zw_lit, xB_c, xB_s, xB_n, i1_c, j2_c, k1_c, jJ_e, xlg, xls, xla, xpd, ppush, zw_m1, zw_m2, zw_m3, gf_7_2, gf_7_3, tg_7_2, tg_7_3, gv_451_2, gv_451_3, xD1, xD2, xD3, xD4, xD5, xD6, xb1_0, e3, c, c'] at h
      obtain ⟨r, H1, ⟨rfl, q1, al', y1, p1⟩, g⟩ := xc_use h (sp_c_fixFirst i S N σ0 H0 H al h5 ⟨i0, c⟩ f hQ hY hP)
      have ed := y1.1.2 i i0 c
      by_cases e : dL (S 0) i = k
      · have e' : (dL (S 0) i = k) = True := eq_true e
        rw [if_pos e]
        simp (maxDischargeDepth := 12) -implicitDefEqProofs [vb_X7_billFor_0, vb_X7_billFor_7, vb_X7_billFor_36, vb_X7_billFor_42, xI_0, xI_1, xI_3, xI_6, xI_7, xI_36, xI_44, xI_46, xI_49, xI_51, xI_61, xI_62, xw_X7_billFor_0, xw_X7_billFor_7, xw_X7_billFor_36, xw_X7_billFor_42, zw_lit, xB_c, xB_s, xB_n, i1_c, j2_c, k1_c, jJ_e, xlg, xls, xla, xpd, ppush, zw_m1, zw_m2, zw_m3, gf_7_2, gf_7_3, tg_7_2, tg_7_3, gv_451_2, gv_451_3, xD1, xD2, xD3, xD4, xD5, xD6, xb1_0, ed, e'] at g
        exact ⟨H1, q1, g⟩
      · rw [if_neg e]
        simp (maxDischargeDepth := 12) -implicitDefEqProofs [vb_X7_billFor_0, vb_X7_billFor_7, vb_X7_billFor_36, vb_X7_billFor_42, xI_0, xI_1, xI_3, xI_6, xI_7, xI_36, xI_44, xI_46, xI_49, xI_51, xI_61, xI_62, xw_X7_billFor_0, xw_X7_billFor_7, xw_X7_billFor_36, xw_X7_billFor_42, zw_lit, xB_c, xB_s, xB_n, i1_c, j2_c, k1_c, jJ_e, xlg, xls, xla, xpd, ppush, zw_m1, zw_m2, zw_m3, gf_7_2, gf_7_3, tg_7_2, tg_7_3, gv_451_2, gv_451_3, xD1, xD2, xD3, xD4, xD5, xD6, xb1_0, ed, e, z1] at g
        obtain ⟨m, hm, g⟩ := g
        exact ih m hm (i + 1) _ H1 al' (by omega) (by omega) q1 y1 p1 g
    · have c' : (dN (S 0) : Int) ≤ i := by omega
      rw [show (dN (S 0) - i).toNat = 0 by omega]
      have h := xw_top (hd := [7]) 6 xD6_ok xc_X7_billFor xa_X7_billFor (t := 7) rfl h
      simp (maxDischargeDepth := 12) -implicitDefEqProofs [vb_X7_billFor_0, vb_X7_billFor_7, vb_X7_billFor_36, vb_X7_billFor_42, xI_0, xI_1, xI_3, xI_6, xI_7, xI_36, xI_44, xI_46, xI_49, xI_51, xI_61, xI_62, xw_X7_billFor_0, xw_X7_billFor_7, xw_X7_billFor_36, xw_X7_billFor_42, zw_lit, xB_c, xB_s, xB_n, i1_c, j2_c, k1_c, jJ_e, xlg, xls, xla, xpd, ppush, zw_m1, zw_m2, zw_m3, gf_7_2, gf_7_3, tg_7_2, tg_7_3, gv_451_2, gv_451_3, xD1, xD2, xD3, xD4, xD5, xD6, xb1_0, e3, c, c'] at h
      exact ⟨H, hQ, h⟩
set_option maxRecDepth 100000 in
theorem sp_c_billFor (k : Int) (S : Int → Int → Int) (n : Int) (σ0 : Int → Int) (H0 H : PH) (h5 : dN (S 0) ≤ 5) (f : fst1 (S 0) (dL (S 0)) (dN (S 0)) σ0) (hQ : SQ H0 H S n) (hY : SY (S 0) (al0 (S 0)) H) : SPEC 69 [(2, 451), (0, k)] H (fun r H' => r = some (0, fnd (dL (S 0)) σ0 k (dN (S 0)) 0) ∧ SQ H0 H' S n) := by
  intro E n' res h
  have ok := RC_sz hQ.1.1
  have p0 := AP_0 (σ0 := σ0) h5
  have h := call_runP 5 vm_X7_billFor h
  have h := xw_top (hd := [7]) 6 xD6_ok xc_X7_billFor xa_X7_billFor (t := 0) rfl h
  simp (maxDischargeDepth := 12) -implicitDefEqProofs [vb_X7_billFor_0, vb_X7_billFor_7, vb_X7_billFor_36, vb_X7_billFor_42, xI_0, xI_1, xI_3, xI_6, xI_7, xI_36, xI_44, xI_46, xI_49, xI_51, xI_61, xI_62, xw_X7_billFor_0, xw_X7_billFor_7, xw_X7_billFor_36, xw_X7_billFor_42, zw_lit, xB_c, xB_s, xB_n, i1_c, j2_c, k1_c, jJ_e, xlg, xls, xla, xpd, ppush, zw_m1, zw_m2, zw_m3, gf_7_2, gf_7_3, tg_7_2, tg_7_3, gv_451_2, gv_451_3, xD1, xD2, xD3, xD4, xD5, xD6, xb1_0] at h
  obtain ⟨r, H1, ⟨rfl, q1, y1⟩, g⟩ := xc_use h (sp_c_leastInAll S n (al0 (S 0)) H0 H h5 (AP_SBA p0) hQ hY)
  rw [min_0 ok.1 ok.2.2.2 h5 f] at g
  simp (maxDischargeDepth := 12) -implicitDefEqProofs [vb_X7_billFor_0, vb_X7_billFor_7, vb_X7_billFor_36, vb_X7_billFor_42, xI_0, xI_1, xI_3, xI_6, xI_7, xI_36, xI_44, xI_46, xI_49, xI_51, xI_61, xI_62, xw_X7_billFor_0, xw_X7_billFor_7, xw_X7_billFor_36, xw_X7_billFor_42, zw_lit, xB_c, xB_s, xB_n, i1_c, j2_c, k1_c, jJ_e, xlg, xls, xla, xpd, ppush, zw_m1, zw_m2, zw_m3, gf_7_2, gf_7_3, tg_7_2, tg_7_3, gv_451_2, gv_451_3, xD1, xD2, xD3, xD4, xD5, xD6, xb1_0] at g
  obtain ⟨m, hm, g⟩ := g
  obtain ⟨H', k1, k2⟩ := lp_bfoA k S n σ0 H0 h5 f m 0 _ H1 (al0 (S 0)) (by decide) (by omega) q1 y1 p0 g
  rw [Int.sub_zero, Int.toNat_natCast] at k2
  exact ⟨_, H', k2, rfl, k1⟩
set_option maxRecDepth 100000 in
theorem lp_gaA28 (x y : Int) (S : Int → Int → Int) (N : Int) (H0 : PH) (h5 : (dbZ (S 0)).1 ≤ 5) {E : xE} {res : xR} : ∀ (n : Nat) (k : Int) (H : PH), 0 ≤ k → k ≤ S 0 2 → SQ H0 H S N → (H 451 3 = (dbS (S 0) k.toNat).1 ∧ ∀ i, 0 ≤ i → i < (dbS (S 0) k.toNat).1 → H 452 i = (dbS (S 0) k.toNat).2 i) → RUN E res n kd_X7_gather (zget kd_X7_gather 28) 28 [451, x, k, y] [] H → ∃ (H' : PH) (k' : Int), SQ H0 H' S N ∧ DLn (S 0) H' ∧ xJ E res n kd_X7_gather 87 [451, x, k', y] [] H' := by
  intro n
  induction n using Nat.strongRecOn with
  | _ n ih =>
    intro k H k0 k1 hQ hL h
    have ok := RC_sz hQ.1.1
    have a2 := ok.1.2.2.1
    have e4 : H 1 4 = S 0 2 := hQ.1.1.1.1.1.2.2.1.symm
    obtain ⟨s1, s2⟩ := dbS_in (S 0) k.toNat
    by_cases c : k < S 0 2
    · have c' : ¬ S 0 2 ≤ k := by omega
      have z1 : zw (k + 1) = k + 1 := zw_lit (by omega) (by omega)
      have er := hQ.2.2.2.1 k k0 c
      have kn : ((k.toNat : Nat) : Int) = k := by omega
      have es := dbS_S (S 0) k.toNat
      rw [kn] at es
      have st : (k + 1).toNat = k.toNat + 1 := by omega
      have e3 := hL.1
      by_cases q : rdL (S 0) k = -2
      · rw [if_pos q] at es
        have up : (dbS (S 0) k.toNat).1 + 1 ≤ 5 := by
          have m1 := dbS_mono (S 0) ((S 0 2).toNat - (k.toNat + 1)) (k.toNat + 1)
          rw [show k.toNat + 1 + ((S 0 2).toNat - (k.toNat + 1)) = (S 0 2).toNat by omega] at m1
          have m2 : (dbS (S 0) (k.toNat + 1)).1 = (dbS (S 0) k.toNat).1 + 1 := by rw [es]
          have m3 : (dbS (S 0) (S 0 2).toNat).1 = (dbZ (S 0)).1 := rfl
          omega
        have q5 : (dbS (S 0) k.toNat).1 < 5 := by omega
        have q6 : ¬ 5 ≤ (dbS (S 0) k.toNat).1 := by omega
        have zc : zw ((dbS (S 0) k.toNat).1 + 1) = (dbS (S 0) k.toNat).1 + 1 := zw_lit (by omega) (by omega)
        have h := xw_top (hd := [28, 87, 89, 109]) 13 xD6_ok xc_X7_gather xa_X7_gather (t := 28) rfl h
        simp (maxDischargeDepth := 12) -implicitDefEqProofs [vb_X7_gather_0, vb_X7_gather_21, vb_X7_gather_28, vb_X7_gather_81, vb_X7_gather_87, vb_X7_gather_89, vb_X7_gather_109, vb_X7_gather_139, vb_X7_gather_140, vb_X7_gather_148, vb_X7_gather_159, xI_0, xI_1, xI_3, xI_6, xI_7, xI_8, xI_14, xI_20, xI_22, xI_33, xI_34, xI_36, xI_37, xI_38, xI_44, xI_46, xI_49, xI_50, xI_51, xI_52, xI_60, xI_61, xI_62, xw_X7_gather_0, xw_X7_gather_21, xw_X7_gather_28, xw_X7_gather_81, xw_X7_gather_87, xw_X7_gather_89, xw_X7_gather_109, xw_X7_gather_139, xw_X7_gather_140, xw_X7_gather_148, xw_X7_gather_159, zw_lit, xB_c, xB_s, xB_n, i1_c, j2_c, k1_c, jJ_e, xlg, xls, xla, xpd, ppush, zw_m1, zw_m2, zw_m3, gf_1_2, gf_1_4, gf_7_0, gf_7_1, gf_7_2, gf_7_3, gf_7_4, gf_9_2, pf_7_3, tg_1_2, tg_1_4, tg_7_0, tg_7_1, tg_7_2, tg_7_3, tg_7_4, tg_9_2, gv_1_2, gv_1_4, gv_451_0, gv_451_1, gv_451_2, gv_451_3, gv_451_4, gv_215_2, xD1, xD2, xD3, xD4, xD5, xD6, xb1_0, e4, c, c', er, q, e3, q5, q6, z1, zc, xp_ne] at h
        obtain ⟨m, hm, h⟩ := h
        have f1 : (dbS (S 0) (k + 1).toNat).1 = (dbS (S 0) k.toNat).1 + 1 := by rw [st, es]
        have f2 : (dbS (S 0) (k + 1).toNat).2 = xup (dbS (S 0) k.toNat).2 (dbS (S 0) k.toNat).1 k := by rw [st, es]
        obtain ⟨H', k', j1, j2, j3⟩ := ih m hm (k + 1) _ (by omega) (by omega) (SQ_up (by decide) (SQ_up (by decide) hQ)) ⟨by rw [xp_at, if_pos rfl, f1], fun i i0 i1 => by
          rw [f1] at i1
          rw [f2, xp_ne (by decide), xp_at]
          unfold xup
          by_cases e : i = (dbS (S 0) k.toNat).1
          · rw [if_pos e, if_pos e]
          · rw [if_neg e, if_neg e]
            exact hL.2 i i0 (by omega)⟩ h
        exact ⟨H', k', j1, j2, xJ_up j3 (by omega)⟩
      · rw [if_neg q] at es
        have h := xw_top (hd := [28, 87, 89, 109]) 13 xD6_ok xc_X7_gather xa_X7_gather (t := 28) rfl h
        simp (maxDischargeDepth := 12) -implicitDefEqProofs [vb_X7_gather_0, vb_X7_gather_21, vb_X7_gather_28, vb_X7_gather_81, vb_X7_gather_87, vb_X7_gather_89, vb_X7_gather_109, vb_X7_gather_139, vb_X7_gather_140, vb_X7_gather_148, vb_X7_gather_159, xI_0, xI_1, xI_3, xI_6, xI_7, xI_8, xI_14, xI_20, xI_22, xI_33, xI_34, xI_36, xI_37, xI_38, xI_44, xI_46, xI_49, xI_50, xI_51, xI_52, xI_60, xI_61, xI_62, xw_X7_gather_0, xw_X7_gather_21, xw_X7_gather_28, xw_X7_gather_81, xw_X7_gather_87, xw_X7_gather_89, xw_X7_gather_109, xw_X7_gather_139, xw_X7_gather_140, xw_X7_gather_148, xw_X7_gather_159, zw_lit, xB_c, xB_s, xB_n, i1_c, j2_c, k1_c, jJ_e, xlg, xls, xla, xpd, ppush, zw_m1, zw_m2, zw_m3, gf_1_2, gf_1_4, gf_7_0, gf_7_1, gf_7_2, gf_7_3, gf_7_4, gf_9_2, pf_7_3, tg_1_2, tg_1_4, tg_7_0, tg_7_1, tg_7_2, tg_7_3, tg_7_4, tg_9_2, gv_1_2, gv_1_4, gv_451_0, gv_451_1, gv_451_2, gv_451_3, gv_451_4, gv_215_2, xD1, xD2, xD3, xD4, xD5, xD6, xb1_0, e4, c, c', er, q, z1] at h
        obtain ⟨m, hm, h⟩ := h
        obtain ⟨H', k', j1, j2, j3⟩ := ih m hm (k + 1) H (by omega) (by omega) hQ (by rw [st, es]; exact hL) h
        exact ⟨H', k', j1, j2, xJ_up j3 (by omega)⟩
    · have c' : S 0 2 ≤ k := by omega
      have ek : k.toNat = (S 0 2).toNat := by omega
      have h := xw_top (hd := [28, 87, 89, 109]) 13 xD6_ok xc_X7_gather xa_X7_gather (t := 28) rfl h
      simp (maxDischargeDepth := 12) -implicitDefEqProofs [vb_X7_gather_0, vb_X7_gather_21, vb_X7_gather_28, vb_X7_gather_81, vb_X7_gather_87, vb_X7_gather_89, vb_X7_gather_109, vb_X7_gather_139, vb_X7_gather_140, vb_X7_gather_148, vb_X7_gather_159, xI_0, xI_1, xI_3, xI_6, xI_7, xI_8, xI_14, xI_20, xI_22, xI_33, xI_34, xI_36, xI_37, xI_38, xI_44, xI_46, xI_49, xI_50, xI_51, xI_52, xI_60, xI_61, xI_62, xw_X7_gather_0, xw_X7_gather_21, xw_X7_gather_28, xw_X7_gather_81, xw_X7_gather_87, xw_X7_gather_89, xw_X7_gather_109, xw_X7_gather_139, xw_X7_gather_140, xw_X7_gather_148, xw_X7_gather_159, zw_lit, xB_c, xB_s, xB_n, i1_c, j2_c, k1_c, jJ_e, xlg, xls, xla, xpd, ppush, zw_m1, zw_m2, zw_m3, gf_1_2, gf_1_4, gf_7_0, gf_7_1, gf_7_2, gf_7_3, gf_7_4, gf_9_2, pf_7_3, tg_1_2, tg_1_4, tg_7_0, tg_7_1, tg_7_2, tg_7_3, tg_7_4, tg_9_2, gv_1_2, gv_1_4, gv_451_0, gv_451_1, gv_451_2, gv_451_3, gv_451_4, gv_215_2, xD1, xD2, xD3, xD4, xD5, xD6, xb1_0, e4, c, c'] at h
      rw [ek] at hL s1
      have s1 : 0 ≤ (dbZ (S 0)).1 := s1.1
      have e : ((dN (S 0) : Nat) : Int) = (dbZ (S 0)).1 := by unfold dN; omega
      exact ⟨H, k, hQ, ⟨by rw [e]; exact hL.1, fun i i0 i1 => hL.2 i i0 (by rw [e] at i1; exact i1)⟩, h⟩
set_option maxRecDepth 100000 in
theorem lp_gaA109 (x b : Int) (S : Int → Int → Int) (N : Int) (H0 Hs : PH) (h5 : dN (S 0) ≤ 5) (hb : 0 ≤ b ∧ b < S 0 0) {E : xE} {res : xR} : ∀ (n : Nat) (i : Int) (H : PH), 0 ≤ i → i ≤ (dN (S 0) : Int) → SQ H0 H S N → DLn (S 0) H → (∀ c, 451 ≤ c → c ≤ 467 → ¬ c = 453 → H c = Hs c) → (∀ j, ¬ j = b → H 453 j = Hs 453 j) → H 453 b = (mkN (fun l => nrB (S 0) (dL (S 0) l) b) i.toNat : Int) → RUN E res n kd_X7_gather (zget kd_X7_gather 109) 109 [451, x, b, i] [] H → ∃ (H' : PH) (i' : Int), SQ H0 H' S N ∧ DLn (S 0) H' ∧ (∀ c, 451 ≤ c → c ≤ 467 → ¬ c = 453 → H' c = Hs c) ∧ (∀ j, ¬ j = b → H' 453 j = Hs 453 j) ∧ H' 453 b = (al0 (S 0) b.toNat : Int) ∧ xJ E res n kd_X7_gather 148 [451, x, b, i'] [] H' := by
  have p2 : pw2 (dN (S 0)) ≤ 32 := p32 h5
  have bb : ((b.toNat : Nat) : Int) = b := by omega
  intro n
  induction n using Nat.strongRecOn with
  | _ n ih =>
    intro i H i0 i1 hQ hL hF hJ hV h
    have e3 := hL.1
    by_cases c : i < (dN (S 0) : Int)
    · have c' : ¬ (dN (S 0) : Int) ≤ i := by omega
      have z1 : zw (i + 1) = i + 1 := zw_lit (by omega) (by omega)
      have st : (i + 1).toNat = i.toNat + 1 := by omega
      have ii : ((i.toNat : Nat) : Int) = i := by omega
      have sh := shl_T (i := i) (by omega)
      have m32 : mkN (fun l => nrB (S 0) (dL (S 0) l) b) i.toNat < 32 := Nat.lt_of_lt_of_le (mkN_lt _ _) (p32 (by omega))
      have t32 : pw2 i.toNat < 32 := by
        have : 2 ^ i.toNat ≤ 2 ^ 4 := Nat.pow_le_pow_right (by decide) (by omega)
        show 2 ^ i.toNat < 32
        omega
      have h := xw_top (hd := [28, 87, 89, 109, 148]) 13 xD6_ok xc_X7_gather xa_X7_gather (t := 109) rfl h
      simp (maxDischargeDepth := 12) -implicitDefEqProofs [vb_X7_gather_0, vb_X7_gather_21, vb_X7_gather_28, vb_X7_gather_81, vb_X7_gather_87, vb_X7_gather_89, vb_X7_gather_109, vb_X7_gather_139, vb_X7_gather_140, vb_X7_gather_148, vb_X7_gather_159, xI_0, xI_1, xI_3, xI_6, xI_7, xI_8, xI_14, xI_20, xI_22, xI_33, xI_34, xI_36, xI_37, xI_38, xI_44, xI_46, xI_49, xI_50, xI_51, xI_52, xI_60, xI_61, xI_62, xw_X7_gather_0, xw_X7_gather_21, xw_X7_gather_28, xw_X7_gather_81, xw_X7_gather_87, xw_X7_gather_89, xw_X7_gather_109, xw_X7_gather_139, xw_X7_gather_140, xw_X7_gather_148, xw_X7_gather_159, zw_lit, xB_c, xB_s, xB_n, i1_c, j2_c, k1_c, jJ_e, xlg, xls, xla, xpd, ppush, zw_m1, zw_m2, zw_m3, gf_1_2, gf_1_4, gf_7_0, gf_7_1, gf_7_2, gf_7_3, gf_7_4, gf_9_2, pf_7_3, tg_1_2, tg_1_4, tg_7_0, tg_7_1, tg_7_2, tg_7_3, tg_7_4, tg_9_2, gv_1_2, gv_1_4, gv_451_0, gv_451_1, gv_451_2, gv_451_3, gv_451_4, gv_215_2, xD1, xD2, xD3, xD4, xD5, xD6, xb1_0, e3, c, c', hV] at h
      obtain ⟨r, H1, ⟨rfl, q1, f1⟩, g⟩ := xc_use h (sp_c_isNearest i b S N H0 H hQ hL h5 ⟨i0, c⟩ hb)
      have step : ∀ v : Int, v = (mkN (fun l => nrB (S 0) (dL (S 0) l) b) (i + 1).toNat : Int) → xJ E res n kd_X7_gather 109 [451, x, b, i + 1] [] (pup H1 453 b v) → ∃ (H' : PH) (i' : Int), SQ H0 H' S N ∧ DLn (S 0) H' ∧ (∀ c, 451 ≤ c → c ≤ 467 → ¬ c = 453 → H' c = Hs c) ∧ (∀ j, ¬ j = b → H' 453 j = Hs 453 j) ∧ H' 453 b = (al0 (S 0) b.toNat : Int) ∧ xJ E res n kd_X7_gather 148 [451, x, b, i'] [] H' := by
        rintro v ev ⟨m, hm, g⟩
        obtain ⟨H', i', j1, j2, j3, j4, j5, j6⟩ := ih m hm (i + 1) _ (by omega) (by omega) (SQ_up (by decide) q1) (DLn_up (by decide) (DLn_fs f1 hL)) (fun c c0 c1 c2 => by rw [xp_ne c2, f1 c c0 c1]; exact hF c c0 c1 c2) (fun j hj => by rw [xp_at, if_neg hj, f1 453 (by decide) (by decide)]; exact hJ j hj) (by rw [xp_at, if_pos rfl]; exact ev) g
        exact ⟨H', i', j1, j2, j3, j4, j5, xJ_up j6 (by omega)⟩
      by_cases nr : nrB (S 0) (dL (S 0) i) b = true
      · rw [if_pos nr] at g
        have ort := (and_T (x := (mkN (fun l => nrB (S 0) (dL (S 0) l) b) i.toNat : Int)) (y := ((pw2 i.toNat : Nat) : Int)) (by omega) (by omega)).2
        rw [Int.toNat_natCast, Int.toNat_natCast] at ort
        simp (maxDischargeDepth := 12) -implicitDefEqProofs [vb_X7_gather_0, vb_X7_gather_21, vb_X7_gather_28, vb_X7_gather_81, vb_X7_gather_87, vb_X7_gather_89, vb_X7_gather_109, vb_X7_gather_139, vb_X7_gather_140, vb_X7_gather_148, vb_X7_gather_159, xI_0, xI_1, xI_3, xI_6, xI_7, xI_8, xI_14, xI_20, xI_22, xI_33, xI_34, xI_36, xI_37, xI_38, xI_44, xI_46, xI_49, xI_50, xI_51, xI_52, xI_60, xI_61, xI_62, xw_X7_gather_0, xw_X7_gather_21, xw_X7_gather_28, xw_X7_gather_81, xw_X7_gather_87, xw_X7_gather_89, xw_X7_gather_109, xw_X7_gather_139, xw_X7_gather_140, xw_X7_gather_148, xw_X7_gather_159, zw_lit, xB_c, xB_s, xB_n, i1_c, j2_c, k1_c, jJ_e, xlg, xls, xla, xpd, ppush, zw_m1, zw_m2, zw_m3, gf_1_2, gf_1_4, gf_7_0, gf_7_1, gf_7_2, gf_7_3, gf_7_4, gf_9_2, pf_7_3, tg_1_2, tg_1_4, tg_7_0, tg_7_1, tg_7_2, tg_7_3, tg_7_4, tg_9_2, gv_1_2, gv_1_4, gv_451_0, gv_451_1, gv_451_2, gv_451_3, gv_451_4, gv_215_2, xD1, xD2, xD3, xD4, xD5, xD6, xb1_0, sh, ort, z1] at g
        refine step _ ?_ g
        rw [st]
        show _ = ((mkN (fun l => nrB (S 0) (dL (S 0) l) b) i.toNat ||| (if nrB (S 0) (dL (S 0) ((i.toNat : Nat) : Int)) b = true then 2 ^ i.toNat else 0) : Nat) : Int)
        rw [ii, if_pos nr]
        rfl
      · rw [if_neg nr] at g
        have ort := (and_T (x := (mkN (fun l => nrB (S 0) (dL (S 0) l) b) i.toNat : Int)) (y := 0) (by omega) (by decide)).2
        rw [Int.toNat_natCast] at ort
        simp (maxDischargeDepth := 12) -implicitDefEqProofs [vb_X7_gather_0, vb_X7_gather_21, vb_X7_gather_28, vb_X7_gather_81, vb_X7_gather_87, vb_X7_gather_89, vb_X7_gather_109, vb_X7_gather_139, vb_X7_gather_140, vb_X7_gather_148, vb_X7_gather_159, xI_0, xI_1, xI_3, xI_6, xI_7, xI_8, xI_14, xI_20, xI_22, xI_33, xI_34, xI_36, xI_37, xI_38, xI_44, xI_46, xI_49, xI_50, xI_51, xI_52, xI_60, xI_61, xI_62, xw_X7_gather_0, xw_X7_gather_21, xw_X7_gather_28, xw_X7_gather_81, xw_X7_gather_87, xw_X7_gather_89, xw_X7_gather_109, xw_X7_gather_139, xw_X7_gather_140, xw_X7_gather_148, xw_X7_gather_159, zw_lit, xB_c, xB_s, xB_n, i1_c, j2_c, k1_c, jJ_e, xlg, xls, xla, xpd, ppush, zw_m1, zw_m2, zw_m3, gf_1_2, gf_1_4, gf_7_0, gf_7_1, gf_7_2, gf_7_3, gf_7_4, gf_9_2, pf_7_3, tg_1_2, tg_1_4, tg_7_0, tg_7_1, tg_7_2, tg_7_3, tg_7_4, tg_9_2, gv_1_2, gv_1_4, gv_451_0, gv_451_1, gv_451_2, gv_451_3, gv_451_4, gv_215_2, xD1, xD2, xD3, xD4, xD5, xD6, xb1_0, ort, z1] at g
        refine step _ ?_ g
        rw [st]
        show _ = ((mkN (fun l => nrB (S 0) (dL (S 0) l) b) i.toNat ||| (if nrB (S 0) (dL (S 0) ((i.toNat : Nat) : Int)) b = true then 2 ^ i.toNat else 0) : Nat) : Int)
        rw [ii, if_neg nr, Nat.or_zero]
    · have c' : (dN (S 0) : Int) ≤ i := by omega
      have ei : i.toNat = dN (S 0) := by omega
      have h := xw_top (hd := [28, 87, 89, 109, 148]) 13 xD6_ok xc_X7_gather xa_X7_gather (t := 109) rfl h
      simp (maxDischargeDepth := 12) -implicitDefEqProofs [vb_X7_gather_0, vb_X7_gather_21, vb_X7_gather_28, vb_X7_gather_81, vb_X7_gather_87, vb_X7_gather_89, vb_X7_gather_109, vb_X7_gather_139, vb_X7_gather_140, vb_X7_gather_148, vb_X7_gather_159, xI_0, xI_1, xI_3, xI_6, xI_7, xI_8, xI_14, xI_20, xI_22, xI_33, xI_34, xI_36, xI_37, xI_38, xI_44, xI_46, xI_49, xI_50, xI_51, xI_52, xI_60, xI_61, xI_62, xw_X7_gather_0, xw_X7_gather_21, xw_X7_gather_28, xw_X7_gather_81, xw_X7_gather_87, xw_X7_gather_89, xw_X7_gather_109, xw_X7_gather_139, xw_X7_gather_140, xw_X7_gather_148, xw_X7_gather_159, zw_lit, xB_c, xB_s, xB_n, i1_c, j2_c, k1_c, jJ_e, xlg, xls, xla, xpd, ppush, zw_m1, zw_m2, zw_m3, gf_1_2, gf_1_4, gf_7_0, gf_7_1, gf_7_2, gf_7_3, gf_7_4, gf_9_2, pf_7_3, tg_1_2, tg_1_4, tg_7_0, tg_7_1, tg_7_2, tg_7_3, tg_7_4, tg_9_2, gv_1_2, gv_1_4, gv_451_0, gv_451_1, gv_451_2, gv_451_3, gv_451_4, gv_215_2, xD1, xD2, xD3, xD4, xD5, xD6, xb1_0, e3, c, c'] at h
      refine ⟨H, i, hQ, hL, hF, hJ, ?_, h⟩
      rw [hV, ei]
      unfold al0
      rw [bb]
set_option maxRecDepth 100000 in
theorem lp_gaA89 (x : Int) (S : Int → Int → Int) (N : Int) (H0 : PH) (h5 : dN (S 0) ≤ 5) {E : xE} {res : xR} : ∀ (n : Nat) (b y : Int) (H : PH), 0 ≤ b → b ≤ S 0 0 → SQ H0 H S N → DLn (S 0) H → (∀ c : Nat, (c : Int) < b → H 453 c = (al0 (S 0) c : Int)) → (∀ c u : Nat, (c : Int) < b → u &&& al0 (S 0) c = u → H (455 + (c : Int)) u = cuS (S 0) (dL (S 0)) (dN (S 0)) c u) → RUN E res n kd_X7_gather (zget kd_X7_gather 89) 89 [451, x, b, y] [] H → ∃ H', SQ H0 H' S N ∧ SY (S 0) (al0 (S 0)) H' ∧ REPR E res (some (0, 1)) H' := by
  have p2 : pw2 (dN (S 0)) ≤ 32 := p32 h5
  intro n
  induction n using Nat.strongRecOn with
  | _ n ih =>
    intro b y H b0 b1 hQ hL hA hC h
    have ok := RC_sz hQ.1.1
    have a0 := ok.1.1
    have e2 : H 1 2 = S 0 0 := hQ.1.1.1.1.1.1.symm
    by_cases c : b < S 0 0
    · have c' : ¬ S 0 0 ≤ b := by omega
      have z1 : zw (b + 1) = b + 1 := zw_lit (by omega) (by omega)
      have bb : ((b.toNat : Nat) : Int) = b := by omega
      have h := xw_top (hd := [28, 87, 89, 109, 148]) 13 xD6_ok xc_X7_gather xa_X7_gather (t := 89) rfl h
      simp (maxDischargeDepth := 12) -implicitDefEqProofs [vb_X7_gather_0, vb_X7_gather_21, vb_X7_gather_28, vb_X7_gather_81, vb_X7_gather_87, vb_X7_gather_89, vb_X7_gather_109, vb_X7_gather_139, vb_X7_gather_140, vb_X7_gather_148, vb_X7_gather_159, xI_0, xI_1, xI_3, xI_6, xI_7, xI_8, xI_14, xI_20, xI_22, xI_33, xI_34, xI_36, xI_37, xI_38, xI_44, xI_46, xI_49, xI_50, xI_51, xI_52, xI_60, xI_61, xI_62, xw_X7_gather_0, xw_X7_gather_21, xw_X7_gather_28, xw_X7_gather_81, xw_X7_gather_87, xw_X7_gather_89, xw_X7_gather_109, xw_X7_gather_139, xw_X7_gather_140, xw_X7_gather_148, xw_X7_gather_159, zw_lit, xB_c, xB_s, xB_n, i1_c, j2_c, k1_c, jJ_e, xlg, xls, xla, xpd, ppush, zw_m1, zw_m2, zw_m3, gf_1_2, gf_1_4, gf_7_0, gf_7_1, gf_7_2, gf_7_3, gf_7_4, gf_9_2, pf_7_3, tg_1_2, tg_1_4, tg_7_0, tg_7_1, tg_7_2, tg_7_3, tg_7_4, tg_9_2, gv_1_2, gv_1_4, gv_451_0, gv_451_1, gv_451_2, gv_451_3, gv_451_4, gv_215_2, xD1, xD2, xD3, xD4, xD5, xD6, xb1_0, e2, c, c'] at h
      obtain ⟨m, hm, h⟩ := h
      obtain ⟨H1, i1, k1, k2, k3, k4, k5, m2, hm2, k6⟩ := lp_gaA109 x b S N H0 (pup H 453 b 0) h5 ⟨b0, c⟩ m 0 _ (by decide) (by omega) (SQ_up (by decide) hQ) (DLn_up (by decide) hL) (fun _ _ _ _ => rfl) (fun _ _ => rfl) (by rw [xp_at, if_pos rfl]; rfl) h
      have k6 := xw_top (hd := [28, 87, 89, 109, 148]) 13 xD6_ok xc_X7_gather xa_X7_gather (t := 148) rfl k6
      simp (maxDischargeDepth := 12) -implicitDefEqProofs [vb_X7_gather_0, vb_X7_gather_21, vb_X7_gather_28, vb_X7_gather_81, vb_X7_gather_87, vb_X7_gather_89, vb_X7_gather_109, vb_X7_gather_139, vb_X7_gather_140, vb_X7_gather_148, vb_X7_gather_159, xI_0, xI_1, xI_3, xI_6, xI_7, xI_8, xI_14, xI_20, xI_22, xI_33, xI_34, xI_36, xI_37, xI_38, xI_44, xI_46, xI_49, xI_50, xI_51, xI_52, xI_60, xI_61, xI_62, xw_X7_gather_0, xw_X7_gather_21, xw_X7_gather_28, xw_X7_gather_81, xw_X7_gather_87, xw_X7_gather_89, xw_X7_gather_109, xw_X7_gather_139, xw_X7_gather_140, xw_X7_gather_148, xw_X7_gather_159, zw_lit, xB_c, xB_s, xB_n, i1_c, j2_c, k1_c, jJ_e, xlg, xls, xla, xpd, ppush, zw_m1, zw_m2, zw_m3, gf_1_2, gf_1_4, gf_7_0, gf_7_1, gf_7_2, gf_7_3, gf_7_4, gf_9_2, pf_7_3, tg_1_2, tg_1_4, tg_7_0, tg_7_1, tg_7_2, tg_7_3, tg_7_4, tg_9_2, gv_1_2, gv_1_4, gv_451_0, gv_451_1, gv_451_2, gv_451_3, gv_451_4, gv_215_2, xD1, xD2, xD3, xD4, xD5, xD6, xb1_0] at k6
      obtain ⟨r, H2, ⟨rfl, q2, l2, w2, v2⟩, g⟩ := xc_use k6 (sp_c_weigh b S N H0 H1 ⟨b0, c⟩ h5 k1 k2 k5)
      simp (maxDischargeDepth := 12) -implicitDefEqProofs [vb_X7_gather_0, vb_X7_gather_21, vb_X7_gather_28, vb_X7_gather_81, vb_X7_gather_87, vb_X7_gather_89, vb_X7_gather_109, vb_X7_gather_139, vb_X7_gather_140, vb_X7_gather_148, vb_X7_gather_159, xI_0, xI_1, xI_3, xI_6, xI_7, xI_8, xI_14, xI_20, xI_22, xI_33, xI_34, xI_36, xI_37, xI_38, xI_44, xI_46, xI_49, xI_50, xI_51, xI_52, xI_60, xI_61, xI_62, xw_X7_gather_0, xw_X7_gather_21, xw_X7_gather_28, xw_X7_gather_81, xw_X7_gather_87, xw_X7_gather_89, xw_X7_gather_109, xw_X7_gather_139, xw_X7_gather_140, xw_X7_gather_148, xw_X7_gather_159, zw_lit, xB_c, xB_s, xB_n, i1_c, j2_c, k1_c, jJ_e, xlg, xls, xla, xpd, ppush, zw_m1, zw_m2, zw_m3, gf_1_2, gf_1_4, gf_7_0, gf_7_1, gf_7_2, gf_7_3, gf_7_4, gf_9_2, pf_7_3, tg_1_2, tg_1_4, tg_7_0, tg_7_1, tg_7_2, tg_7_3, tg_7_4, tg_9_2, gv_1_2, gv_1_4, gv_451_0, gv_451_1, gv_451_2, gv_451_3, gv_451_4, gv_215_2, xD1, xD2, xD3, xD4, xD5, xD6, xb1_0, z1] at g
      obtain ⟨m3, hm3, g⟩ := g
      refine ih m3 (by omega) (b + 1) _ H2 (by omega) (by omega) q2 l2 (fun d hd => ?_) (fun d u hd hu => ?_) g
      · rw [w2 453 (by decide) (by decide) (by omega)]
        by_cases e : (d : Int) = b
        · rw [e, k5, show d = b.toNat by omega]
        · rw [k4 _ e, xp_at, if_neg e]
          exact hA d (by omega)
      · by_cases e : (d : Int) = b
        · have ed : d = b.toNat := by omega
          rw [e]
          rw [ed] at hu
          refine v2 u ?_ hu
          have m32 : al0 (S 0) b.toNat < pw2 (dN (S 0)) := mkN_lt _ _
          have := Nat.and_le_right (n := u) (m := al0 (S 0) b.toNat)
          omega
        · rw [w2 _ (by omega) (by omega) (by omega), k3 _ (by omega) (by omega) (by omega), xp_ne (by omega)]
          exact hC d u (by omega) hu
    · have c' : S 0 0 ≤ b := by omega
      have h := xw_top (hd := [28, 87, 89, 109, 148]) 13 xD6_ok xc_X7_gather xa_X7_gather (t := 89) rfl h
      simp (maxDischargeDepth := 12) -implicitDefEqProofs [vb_X7_gather_0, vb_X7_gather_21, vb_X7_gather_28, vb_X7_gather_81, vb_X7_gather_87, vb_X7_gather_89, vb_X7_gather_109, vb_X7_gather_139, vb_X7_gather_140, vb_X7_gather_148, vb_X7_gather_159, xI_0, xI_1, xI_3, xI_6, xI_7, xI_8, xI_14, xI_20, xI_22, xI_33, xI_34, xI_36, xI_37, xI_38, xI_44, xI_46, xI_49, xI_50, xI_51, xI_52, xI_60, xI_61, xI_62, xw_X7_gather_0, xw_X7_gather_21, xw_X7_gather_28, xw_X7_gather_81, xw_X7_gather_87, xw_X7_gather_89, xw_X7_gather_109, xw_X7_gather_139, xw_X7_gather_140, xw_X7_gather_148, xw_X7_gather_159, zw_lit, xB_c, xB_s, xB_n, i1_c, j2_c, k1_c, jJ_e, xlg, xls, xla, xpd, ppush, zw_m1, zw_m2, zw_m3, gf_1_2, gf_1_4, gf_7_0, gf_7_1, gf_7_2, gf_7_3, gf_7_4, gf_9_2, pf_7_3, tg_1_2, tg_1_4, tg_7_0, tg_7_1, tg_7_2, tg_7_3, tg_7_4, tg_9_2, gv_1_2, gv_1_4, gv_451_0, gv_451_1, gv_451_2, gv_451_3, gv_451_4, gv_215_2, xD1, xD2, xD3, xD4, xD5, xD6, xb1_0, e2, c, c'] at h
      exact ⟨H, hQ, ⟨hL, fun d hd => ⟨hA d (by omega), Nat.lt_of_lt_of_le (mkN_lt _ _) p2⟩, fun d u hd hu => hC d u (by omega) hu⟩, h⟩
set_option maxRecDepth 100000 in
theorem sp_c_gather (S : Int → Int → Int) (n : Int) (H0 H : PH) (hQ : SQ H0 H S n) : SPEC 63 [(2, 451)] H (fun r H' => SQ H0 H' S n ∧ (((1 ≤ (dbZ (S 0)).1 ∧ (dbZ (S 0)).1 ≤ 5) ∧ r = some (0, 1) ∧ SY (S 0) (al0 (S 0)) H') ∨ (¬ (1 ≤ (dbZ (S 0)).1 ∧ (dbZ (S 0)).1 ≤ 5) ∧ r = some (0, 0)))) := by
  intro E n' res h
  have ok := RC_sz hQ.1.1
  have h := call_runP 4 vm_X7_gather h
  have h := xw_top (hd := [28, 87, 89, 109, 148]) 13 xD6_ok xc_X7_gather xa_X7_gather (t := 0) rfl h
  simp (maxDischargeDepth := 12) -implicitDefEqProofs [vb_X7_gather_0, vb_X7_gather_21, vb_X7_gather_28, vb_X7_gather_81, vb_X7_gather_87, vb_X7_gather_89, vb_X7_gather_109, vb_X7_gather_139, vb_X7_gather_140, vb_X7_gather_148, vb_X7_gather_159, xI_0, xI_1, xI_3, xI_6, xI_7, xI_8, xI_14, xI_20, xI_22, xI_33, xI_34, xI_36, xI_37, xI_38, xI_44, xI_46, xI_49, xI_50, xI_51, xI_52, xI_60, xI_61, xI_62, xw_X7_gather_0, xw_X7_gather_21, xw_X7_gather_28, xw_X7_gather_81, xw_X7_gather_87, xw_X7_gather_89, xw_X7_gather_109, xw_X7_gather_139, xw_X7_gather_140, xw_X7_gather_148, xw_X7_gather_159, zw_lit, xB_c, xB_s, xB_n, i1_c, j2_c, k1_c, jJ_e, xlg, xls, xla, xpd, ppush, zw_m1, zw_m2, zw_m3, gf_1_2, gf_1_4, gf_7_0, gf_7_1, gf_7_2, gf_7_3, gf_7_4, gf_9_2, pf_7_3, tg_1_2, tg_1_4, tg_7_0, tg_7_1, tg_7_2, tg_7_3, tg_7_4, tg_9_2, gv_1_2, gv_1_4, gv_451_0, gv_451_1, gv_451_2, gv_451_3, gv_451_4, gv_215_2, xD1, xD2, xD3, xD4, xD5, xD6, xb1_0] at h
  obtain ⟨r, H1, ⟨rfl, rfl⟩, g⟩ := xc_use h (sp_X9_linesThatAre (-2) (S 0) _ ok.1 hQ.1.1.1 hQ.2)
  rw [← dbZ_many] at g
  by_cases q : 1 ≤ (dbZ (S 0)).1 ∧ (dbZ (S 0)).1 ≤ 5
  · have v0 := q.1
    have v1 := q.2
    have v2 : ¬ (dbZ (S 0)).1 < 1 := by omega
    have v3 : ¬ 5 < (dbZ (S 0)).1 := by omega
    simp (maxDischargeDepth := 12) -implicitDefEqProofs [vb_X7_gather_0, vb_X7_gather_21, vb_X7_gather_28, vb_X7_gather_81, vb_X7_gather_87, vb_X7_gather_89, vb_X7_gather_109, vb_X7_gather_139, vb_X7_gather_140, vb_X7_gather_148, vb_X7_gather_159, xI_0, xI_1, xI_3, xI_6, xI_7, xI_8, xI_14, xI_20, xI_22, xI_33, xI_34, xI_36, xI_37, xI_38, xI_44, xI_46, xI_49, xI_50, xI_51, xI_52, xI_60, xI_61, xI_62, xw_X7_gather_0, xw_X7_gather_21, xw_X7_gather_28, xw_X7_gather_81, xw_X7_gather_87, xw_X7_gather_89, xw_X7_gather_109, xw_X7_gather_139, xw_X7_gather_140, xw_X7_gather_148, xw_X7_gather_159, zw_lit, xB_c, xB_s, xB_n, i1_c, j2_c, k1_c, jJ_e, xlg, xls, xla, xpd, ppush, zw_m1, zw_m2, zw_m3, gf_1_2, gf_1_4, gf_7_0, gf_7_1, gf_7_2, gf_7_3, gf_7_4, gf_9_2, pf_7_3, tg_1_2, tg_1_4, tg_7_0, tg_7_1, tg_7_2, tg_7_3, tg_7_4, tg_9_2, gv_1_2, gv_1_4, gv_451_0, gv_451_1, gv_451_2, gv_451_3, gv_451_4, gv_215_2, xD1, xD2, xD3, xD4, xD5, xD6, xb1_0, v0, v1, v2, v3] at g
    obtain ⟨m, hm, g⟩ := g
    have h5 : dN (S 0) ≤ 5 := by unfold dN; omega
    obtain ⟨H2, k', k1, k2, m2, hm2, k4⟩ := lp_gaA28 _ _ S n H0 v1 m 0 _ (by decide) ok.1.2.2.1.1 (SQ_up (c := 451) (i := 3) (v := 0) (by decide) hQ) ⟨by rw [xp_at, if_pos rfl]; rfl, fun i i0 i1 => by
      have i1 : i < 0 := i1
      omega⟩ g
    have k4 := xw_top (hd := [28, 87, 89, 109, 148]) 13 xD6_ok xc_X7_gather xa_X7_gather (t := 87) rfl k4
    simp (maxDischargeDepth := 12) -implicitDefEqProofs [vb_X7_gather_0, vb_X7_gather_21, vb_X7_gather_28, vb_X7_gather_81, vb_X7_gather_87, vb_X7_gather_89, vb_X7_gather_109, vb_X7_gather_139, vb_X7_gather_140, vb_X7_gather_148, vb_X7_gather_159, xI_0, xI_1, xI_3, xI_6, xI_7, xI_8, xI_14, xI_20, xI_22, xI_33, xI_34, xI_36, xI_37, xI_38, xI_44, xI_46, xI_49, xI_50, xI_51, xI_52, xI_60, xI_61, xI_62, xw_X7_gather_0, xw_X7_gather_21, xw_X7_gather_28, xw_X7_gather_81, xw_X7_gather_87, xw_X7_gather_89, xw_X7_gather_109, xw_X7_gather_139, xw_X7_gather_140, xw_X7_gather_148, xw_X7_gather_159, zw_lit, xB_c, xB_s, xB_n, i1_c, j2_c, k1_c, jJ_e, xlg, xls, xla, xpd, ppush, zw_m1, zw_m2, zw_m3, gf_1_2, gf_1_4, gf_7_0, gf_7_1, gf_7_2, gf_7_3, gf_7_4, gf_9_2, pf_7_3, tg_1_2, tg_1_4, tg_7_0, tg_7_1, tg_7_2, tg_7_3, tg_7_4, tg_9_2, gv_1_2, gv_1_4, gv_451_0, gv_451_1, gv_451_2, gv_451_3, gv_451_4, gv_215_2, xD1, xD2, xD3, xD4, xD5, xD6, xb1_0] at k4
    obtain ⟨m3, hm3, k4⟩ := k4
    obtain ⟨H3, j1, j2, j3⟩ := lp_gaA89 _ S n H0 h5 m3 0 _ H2 (by decide) ok.1.1.1 k1 k2 (fun c hc => by omega) (fun c u hc _ => by omega) k4
    exact ⟨_, H3, j3, j1, Or.inl ⟨q, rfl, j2⟩⟩
  · by_cases v0 : 1 ≤ (dbZ (S 0)).1
    · have v1 : ¬ (dbZ (S 0)).1 ≤ 5 := by omega
      have v3 : 5 < (dbZ (S 0)).1 := by omega
      simp (maxDischargeDepth := 12) -implicitDefEqProofs [vb_X7_gather_0, vb_X7_gather_21, vb_X7_gather_28, vb_X7_gather_81, vb_X7_gather_87, vb_X7_gather_89, vb_X7_gather_109, vb_X7_gather_139, vb_X7_gather_140, vb_X7_gather_148, vb_X7_gather_159, xI_0, xI_1, xI_3, xI_6, xI_7, xI_8, xI_14, xI_20, xI_22, xI_33, xI_34, xI_36, xI_37, xI_38, xI_44, xI_46, xI_49, xI_50, xI_51, xI_52, xI_60, xI_61, xI_62, xw_X7_gather_0, xw_X7_gather_21, xw_X7_gather_28, xw_X7_gather_81, xw_X7_gather_87, xw_X7_gather_89, xw_X7_gather_109, xw_X7_gather_139, xw_X7_gather_140, xw_X7_gather_148, xw_X7_gather_159, zw_lit, xB_c, xB_s, xB_n, i1_c, j2_c, k1_c, jJ_e, xlg, xls, xla, xpd, ppush, zw_m1, zw_m2, zw_m3, gf_1_2, gf_1_4, gf_7_0, gf_7_1, gf_7_2, gf_7_3, gf_7_4, gf_9_2, pf_7_3, tg_1_2, tg_1_4, tg_7_0, tg_7_1, tg_7_2, tg_7_3, tg_7_4, tg_9_2, gv_1_2, gv_1_4, gv_451_0, gv_451_1, gv_451_2, gv_451_3, gv_451_4, gv_215_2, xD1, xD2, xD3, xD4, xD5, xD6, xb1_0, v0, v1, v3] at g
      exact ⟨_, _, g, hQ, Or.inr ⟨q, rfl⟩⟩
    · have v2 : (dbZ (S 0)).1 < 1 := by omega
      simp (maxDischargeDepth := 12) -implicitDefEqProofs [vb_X7_gather_0, vb_X7_gather_21, vb_X7_gather_28, vb_X7_gather_81, vb_X7_gather_87, vb_X7_gather_89, vb_X7_gather_109, vb_X7_gather_139, vb_X7_gather_140, vb_X7_gather_148, vb_X7_gather_159, xI_0, xI_1, xI_3, xI_6, xI_7, xI_8, xI_14, xI_20, xI_22, xI_33, xI_34, xI_36, xI_37, xI_38, xI_44, xI_46, xI_49, xI_50, xI_51, xI_52, xI_60, xI_61, xI_62, xw_X7_gather_0, xw_X7_gather_21, xw_X7_gather_28, xw_X7_gather_81, xw_X7_gather_87, xw_X7_gather_89, xw_X7_gather_109, xw_X7_gather_139, xw_X7_gather_140, xw_X7_gather_148, xw_X7_gather_159, zw_lit, xB_c, xB_s, xB_n, i1_c, j2_c, k1_c, jJ_e, xlg, xls, xla, xpd, ppush, zw_m1, zw_m2, zw_m3, gf_1_2, gf_1_4, gf_7_0, gf_7_1, gf_7_2, gf_7_3, gf_7_4, gf_9_2, pf_7_3, tg_1_2, tg_1_4, tg_7_0, tg_7_1, tg_7_2, tg_7_3, tg_7_4, tg_9_2, gv_1_2, gv_1_4, gv_451_0, gv_451_1, gv_451_2, gv_451_3, gv_451_4, gv_215_2, xD1, xD2, xD3, xD4, xD5, xD6, xb1_0, v0, v2] at g
      exact ⟨_, _, g, hQ, Or.inr ⟨q, rfl⟩⟩
set_option maxRecDepth 100000 in
theorem sp_c_settled (k : Int) (S : Int → Int → Int) (n : Int) (H : PH) (hR : RC H S n) (hM : MCC (S 0) H) : SPEC 139 [(2, 0), (0, k)] H (fun r H' => (∃ v, r = some (0, v) ∧ STa (S 0) k v) ∧ CQ H H' S n) := by
  intro E n' res h
  have ok := RC_sz hR
  have h := call_runP 2 vm_X11_settled h
  have h := xw_top (hd := []) 6 xD6_ok xc_X11_settled xa_X11_settled (t := 0) rfl h
  simp (maxDischargeDepth := 12) -implicitDefEqProofs [vb_X11_settled_0, vb_X11_settled_19, vb_X11_settled_34, vb_X11_settled_42, xI_0, xI_1, xI_7, xI_36, xI_38, xI_44, xI_49, xI_61, xI_62, xw_X11_settled_0, xw_X11_settled_19, xw_X11_settled_34, xw_X11_settled_42, zw_lit, xB_c, xB_s, xB_n, i1_c, j2_c, k1_c, jJ_e, xlg, xls, xla, xpd, ppush, zw_m1, zw_m2, zw_m3, gf_11_2, gf_11_5, tg_11_2, tg_11_5, gv_0_2, gv_0_5, xD1, xD2, xD3, xD4, xD5, xD6, xb1_0] at h
  obtain ⟨r, H1, ⟨rfl, cq, t⟩, g⟩ := xc_use h (sp_c_refresh S n H hR hM)
  simp (maxDischargeDepth := 12) -implicitDefEqProofs [vb_X11_settled_0, vb_X11_settled_19, vb_X11_settled_34, vb_X11_settled_42, xI_0, xI_1, xI_7, xI_36, xI_38, xI_44, xI_49, xI_61, xI_62, xw_X11_settled_0, xw_X11_settled_19, xw_X11_settled_34, xw_X11_settled_42, zw_lit, xB_c, xB_s, xB_n, i1_c, j2_c, k1_c, jJ_e, xlg, xls, xla, xpd, ppush, zw_m1, zw_m2, zw_m3, gf_11_2, gf_11_5, tg_11_2, tg_11_5, gv_0_2, gv_0_5, xD1, xD2, xD3, xD4, xD5, xD6, xb1_0] at g
  obtain ⟨r, H2, ⟨q2, p⟩, g2⟩ := xc_use g (sp_c_gather S n H H1 ⟨cq, t⟩)
  rcases p with ⟨c, rfl, y⟩ | ⟨c, rfl⟩
  · have h5 : dN (S 0) ≤ 5 := by unfold dN; omega
    have di := dN_in ok.1 h5
    have d1 : 0 < (dN (S 0) : Int) := by unfold dN; omega
    have nb := db_bills ok.1 (di.2 0 (by decide) d1)
    obtain ⟨τ, hτ⟩ := rsp_ex (A := S 0) (D := dL (S 0)) (d := (dN (S 0) : Int)) nb
    obtain ⟨σ0, f⟩ := fst1_ex ok.1 ok.2.2.2 (by omega) di.1 hτ
    by_cases km : k = -1
    · simp (maxDischargeDepth := 12) -implicitDefEqProofs [vb_X11_settled_0, vb_X11_settled_19, vb_X11_settled_34, vb_X11_settled_42, xI_0, xI_1, xI_7, xI_36, xI_38, xI_44, xI_49, xI_61, xI_62, xw_X11_settled_0, xw_X11_settled_19, xw_X11_settled_34, xw_X11_settled_42, zw_lit, xB_c, xB_s, xB_n, i1_c, j2_c, k1_c, jJ_e, xlg, xls, xla, xpd, ppush, zw_m1, zw_m2, zw_m3, gf_11_2, gf_11_5, tg_11_2, tg_11_5, gv_0_2, gv_0_5, xD1, xD2, xD3, xD4, xD5, xD6, xb1_0, km] at g2
      obtain ⟨r, H3, ⟨rfl, q3, y3⟩, g3⟩ := xc_use g2 (sp_c_leastInAll S n (al0 (S 0)) H H2 h5 (AP_SBA (AP_0 (σ0 := σ0) h5)) q2 y)
      rw [min_0 ok.1 ok.2.2.2 h5 f] at g3
      simp (maxDischargeDepth := 12) -implicitDefEqProofs [vb_X11_settled_0, vb_X11_settled_19, vb_X11_settled_34, vb_X11_settled_42, xI_0, xI_1, xI_7, xI_36, xI_38, xI_44, xI_49, xI_61, xI_62, xw_X11_settled_0, xw_X11_settled_19, xw_X11_settled_34, xw_X11_settled_42, zw_lit, xB_c, xB_s, xB_n, i1_c, j2_c, k1_c, jJ_e, xlg, xls, xla, xpd, ppush, zw_m1, zw_m2, zw_m3, gf_11_2, gf_11_5, tg_11_2, tg_11_5, gv_0_2, gv_0_5, xD1, xD2, xD3, xD4, xD5, xD6, xb1_0] at g3
      exact ⟨_, H3, g3, ⟨_, rfl, by unfold STa; rw [if_pos c]; exact ⟨σ0, f, by rw [if_pos km]⟩⟩, q3.1⟩
    · simp (maxDischargeDepth := 12) -implicitDefEqProofs [vb_X11_settled_0, vb_X11_settled_19, vb_X11_settled_34, vb_X11_settled_42, xI_0, xI_1, xI_7, xI_36, xI_38, xI_44, xI_49, xI_61, xI_62, xw_X11_settled_0, xw_X11_settled_19, xw_X11_settled_34, xw_X11_settled_42, zw_lit, xB_c, xB_s, xB_n, i1_c, j2_c, k1_c, jJ_e, xlg, xls, xla, xpd, ppush, zw_m1, zw_m2, zw_m3, gf_11_2, gf_11_5, tg_11_2, tg_11_5, gv_0_2, gv_0_5, xD1, xD2, xD3, xD4, xD5, xD6, xb1_0, km] at g2
      obtain ⟨r, H3, ⟨rfl, q3⟩, g3⟩ := xc_use g2 (sp_c_billFor k S n σ0 H H2 h5 f q2 y)
      simp (maxDischargeDepth := 12) -implicitDefEqProofs [vb_X11_settled_0, vb_X11_settled_19, vb_X11_settled_34, vb_X11_settled_42, xI_0, xI_1, xI_7, xI_36, xI_38, xI_44, xI_49, xI_61, xI_62, xw_X11_settled_0, xw_X11_settled_19, xw_X11_settled_34, xw_X11_settled_42, zw_lit, xB_c, xB_s, xB_n, i1_c, j2_c, k1_c, jJ_e, xlg, xls, xla, xpd, ppush, zw_m1, zw_m2, zw_m3, gf_11_2, gf_11_5, tg_11_2, tg_11_5, gv_0_2, gv_0_5, xD1, xD2, xD3, xD4, xD5, xD6, xb1_0] at g3
      exact ⟨_, H3, g3, ⟨_, rfl, by unfold STa; rw [if_pos c]; exact ⟨σ0, f, by rw [if_neg km]⟩⟩, q3.1⟩
  · simp (maxDischargeDepth := 12) -implicitDefEqProofs [vb_X11_settled_0, vb_X11_settled_19, vb_X11_settled_34, vb_X11_settled_42, xI_0, xI_1, xI_7, xI_36, xI_38, xI_44, xI_49, xI_61, xI_62, xw_X11_settled_0, xw_X11_settled_19, xw_X11_settled_34, xw_X11_settled_42, zw_lit, xB_c, xB_s, xB_n, i1_c, j2_c, k1_c, jJ_e, xlg, xls, xla, xpd, ppush, zw_m1, zw_m2, zw_m3, gf_11_2, gf_11_5, tg_11_2, tg_11_5, gv_0_2, gv_0_5, xD1, xD2, xD3, xD4, xD5, xD6, xb1_0] at g2
    exact ⟨_, _, g2, ⟨_, rfl, by unfold STa; rw [if_neg c]⟩, q2.1⟩
