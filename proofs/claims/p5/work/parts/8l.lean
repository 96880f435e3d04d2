theorem nrF_in (f : Int → Int) : ∀ (k : Nat) (b : Int) (t : nS), 0 ≤ b → 0 ≤ t.1 → (0 < t.1 → 0 ≤ t.2.1 ∧ t.2.1 < b) → 0 ≤ (nrF f k b t).1 ∧ (0 < (nrF f k b t).1 → 0 ≤ (nrF f k b t).2.1 ∧ (nrF f k b t).2.1 < b + k)
  | 0, b, t, _, h0, h => ⟨h0, fun q => by have := h q; show 0 ≤ t.2.1 ∧ t.2.1 < b + ((0 : Nat) : Int); omega⟩
  | k + 1, b, t, hb, h0, h => by
    unfold nrF
    have := nrF_in f k (b + 1) (nrS f b t) (by omega) (by unfold nrS; dsimp only; omega) (by unfold nrS; dsimp only; omega)
    refine ⟨this.1, fun q => ?_⟩
    have := this.2 q
    omega
theorem rdA_in {A : Int → Int} (l s : Int) (h : 0 ≤ A 0) : -3 ≤ rdA A l s ∧ rdA A l s < max 1 (A 0) ∧ (0 ≤ rdA A l s → rdA A l s < A 0) ∧ (rdA A l s < 0 → rdA A l s = -2 ∨ rdA A l s = -3) := by
  have q := nrF_in (apB A l s) (A 0).toNat 0 (0, 0, 0) (Int.le_refl _) (Int.le_refl _) (fun q => by have q : (0 : Int) < 0 := q; omega)
  have q1 : 0 ≤ (nrZ A l s).1 := q.1
  have q2 : 0 < (nrZ A l s).1 → 0 ≤ (nrZ A l s).2.1 ∧ (nrZ A l s).2.1 < 0 + ((A 0).toNat : Int) := q.2
  unfold rdA
  by_cases c : (nrZ A l s).1 = 0
  · rw [if_pos (Or.inl c)]
    omega
  · have := q2 (by omega)
    omega
theorem rdL_in {A : Int → Int} (k : Int) (h : 0 ≤ A 0) : -3 ≤ rdL A k ∧ rdL A k < max 1 (A 0) ∧ (0 ≤ rdL A k → rdL A k < A 0) ∧ (rdL A k < 0 → rdL A k = -2 ∨ rdL A k = -3) := rdA_in _ _ h
/-! the same signs, as a test -/
def smR (A : Int → Int) (s s' : Int) : Nat → Int → Bool
  | 0, _ => true
  | n + 1, i => decide (A (s + i) = A (s' + i)) && smR A s s' n (i + 1)
theorem smR_iff (A : Int → Int) (s s' : Int) : ∀ (n : Nat) (i : Int), smR A s s' n i = true ↔ ∀ j, i ≤ j → j < i + n → A (s + j) = A (s' + j)
  | 0, i => ⟨fun _ j h0 h1 => by omega, fun _ => rfl⟩
  | n + 1, i => by
    unfold smR
    rw [Bool.and_eq_true, decide_eq_true_iff, smR_iff A s s' n (i + 1)]
    constructor
    · rintro ⟨h, g⟩ j j0 j1
      by_cases e : j = i
      · rw [e]; exact h
      · exact g j (by omega) (by omega)
    · intro h
      exact ⟨h i (by omega) (by omega), fun j j0 j1 => h j (by omega) (by omega)⟩
def smL (A : Int → Int) (k k' : Int) : Bool := decide (A (404 + 12 * k + 3) = A (404 + 12 * k' + 3)) && smR A (404 + 12 * k + 4) (404 + 12 * k' + 4) (A (404 + 12 * k + 3)).toNat 0
theorem smL_iff {A : Int → Int} {k k' : Int} (h : 0 ≤ A (404 + 12 * k + 3)) : smL A k k' = true ↔ smA A (404 + 12 * k + 3) (404 + 12 * k + 4) (404 + 12 * k' + 3) (404 + 12 * k' + 4) := by
  unfold smL smA
  rw [Bool.and_eq_true, decide_eq_true_iff, smR_iff]
  constructor
  · rintro ⟨a, b⟩
    exact ⟨a, fun i i0 i1 => b i i0 (by omega)⟩
  · rintro ⟨a, b⟩
    exact ⟨a, fun i i0 i1 => b i i0 (by omega)⟩
/-- the first that is so, or another number -/
def fdR (p : Int → Bool) : Nat → Int → Int → Int
  | 0, _, d => d
  | n + 1, h, d => if p h = true then h else fdR p n (h + 1) d
theorem fdR_in (p : Int → Bool) (d : Int) : ∀ (n : Nat) (h : Int), (h ≤ fdR p n h d ∧ fdR p n h d < h + n) ∨ fdR p n h d = d
  | 0, _ => Or.inr rfl
  | n + 1, h => by
    unfold fdR
    split
    · exact Or.inl ⟨by omega, by omega⟩
    · have := fdR_in p d n (h + 1)
      omega
theorem fdR_eq {p p' : Int → Bool} (d : Int) : ∀ (n : Nat) (h : Int), (∀ x, h ≤ x → x < h + n → p x = p' x) → fdR p n h d = fdR p' n h d
  | 0, _, _ => rfl
  | n + 1, h, e => by
    unfold fdR
    rw [e h (by omega) (by omega), fdR_eq d n (h + 1) (fun x a b => e x (by omega) (by omega))]
/-- heaps, their first lines, what both sides count -/
abbrev tS : Type := Int × (Int → Int) × (Int → Int) × (Int → Int)
def hpI (A : Int → Int) (k : Int) (t : tS) : Int := fdR (fun h => smL A k (t.2.1 h)) t.1.toNat 0 t.1
def tlH (A : Int → Int) (k : Int) (t : tS) : Int × (Int → Int) := if rdL A k < 0 ∧ hpI A k t = t.1 then (t.1 + 1, xup t.2.1 t.1 k) else (t.1, t.2.1)
def tlI (A : Int → Int) (k : Int) (t : tS) : Int := if rdL A k < 0 then 12 + hpI A k t else rdL A k
def tlS (A : Int → Int) (k : Int) (t : tS) : tS := ((tlH A k t).1, (tlH A k t).2, if A (404 + 12 * k) = 0 then xup t.2.2.1 (tlI A k t) (zw (t.2.2.1 (tlI A k t) + A (404 + 12 * k + 2))) else t.2.2.1, if A (404 + 12 * k) = 0 then t.2.2.2 else xup t.2.2.2 (tlI A k t) (zw (t.2.2.2 (tlI A k t) + A (404 + 12 * k + 2))))
def tlF (A : Int → Int) : Nat → Int → tS → tS
  | 0, _, t => t
  | n + 1, k, t => tlF A n (k + 1) (tlS A k t)
def tlZ (A : Int → Int) : tS := tlF A (A 2).toNat 0 (0, fun _ => 0, fun _ => 0, fun _ => 0)
theorem hpI_in {A : Int → Int} {k : Int} {t : tS} (h : 0 ≤ t.1) : 0 ≤ hpI A k t ∧ hpI A k t ≤ t.1 := by
  have := fdR_in (fun h => smL A k (t.2.1 h)) t.1 t.1.toNat 0
  unfold hpI
  omega
/-- what is agreed on of a source -/
def agdA (A : Int → Int) (s : Int) : Int := agA A ((tlZ A).2.2.1 s) ((tlZ A).2.2.2 s) (if s < A 0 then A (92 + 26 * s + 9) else 0)
theorem lp_heapAt (k : Int) (A : Int → Int) (hk : 0 ≤ k ∧ k < 60) (hB : MB A) (t : tS) (ht : 0 ≤ t.1 ∧ t.1 ≤ 60) (hf : ∀ h, 0 ≤ h → h < t.1 → 0 ≤ t.2.1 h ∧ t.2.1 h < 60) {E : xE} {res : xR} : ∀ (n : Nat) (i v : Int) (H : PH), 0 ≤ i → i ≤ t.1 → H 591 = A → H 590 26 = t.1 → (∀ h, 0 ≤ h → h < t.1 → H 601 h = t.2.1 h) → RUN E res n kd_X12_heapAt (zget kd_X12_heapAt 7) 7 [590, k, 404 + 12 * k, i, v] [] H → REPR E res (some (0, fdR (fun h => smL A k (t.2.1 h)) (t.1 - i).toNat i t.1)) (if fdR (fun h => smL A k (t.2.1 h)) (t.1 - i).toNat i t.1 = t.1 then pup (pup H 601 t.1 k) 590 26 (t.1 + 1) else H) := by
  intro n
  induction n using Nat.strongRecOn with
  | _ n ih =>
    intro i v H hi0 hi1 hA hc hF h
    have z1 : zw (i + 1) = i + 1 := zw_lit (by omega) (by omega)
    have z2 : zw (t.1 + 1) = t.1 + 1 := zw_lit (by omega) (by omega)
    have z3 : zw (404 + 12 * k + 3) = 404 + 12 * k + 3 := zw_lit (by omega) (by omega)
    have z4 : zw (404 + 12 * k + 4) = 404 + 12 * k + 4 := zw_lit (by omega) (by omega)
    by_cases q : t.1 ≤ i
    · have z5 : zw t.1 = t.1 := zw_lit (by omega) (by omega)
      have h := xw_top (hd := [7]) 6 xD5_ok xc_X12_heapAt xa_X12_heapAt (t := 7) rfl h
      simp (maxDischargeDepth := 12) -implicitDefEqProofs [vb_X12_heapAt_0, vb_X12_heapAt_7, vb_X12_heapAt_49, vb_X12_heapAt_55, xI_0, xI_1, xI_3, xI_6, xI_7, xI_14, xI_15, xI_33, xI_36, xI_37, xI_46, xI_49, xI_50, xI_51, xI_52, xI_60, xI_61, xI_62, xw_X12_heapAt_0, xw_X12_heapAt_7, xw_X12_heapAt_49, xw_X12_heapAt_55, zw_lit, xB_c, xB_s, xB_n, i1_c, j2_c, k1_c, jJ_e, xlg, xls, xla, xpd, ppush, zw_m1, zw_m2, zw_m3, gf_12_21, gf_12_26, pf_12_26, tg_12_21, tg_12_26, gv_590_21, gv_590_26, xD1, xD2, xD3, xD4, xD5, hc, z1, z2, z5, xp_ne, xp_at] at h
      rcases h with ⟨_, h⟩ | ⟨q', h⟩
      · rw [show (t.1 - i).toNat = 0 by omega]
        show REPR E res (some (0, t.1)) (if t.1 = t.1 then _ else _)
        rw [if_pos rfl]
        exact h
      · omega
    · obtain ⟨l0, l1⟩ := hf i hi0 (by omega)
      have e1 : H 601 i = t.2.1 i := hF i hi0 (by omega)
      have z6 : zw (12 * t.2.1 i) = 12 * t.2.1 i := zw_lit (by omega) (by omega)
      have z7 : zw (404 + 12 * t.2.1 i) = 404 + 12 * t.2.1 i := zw_lit (by omega) (by omega)
      have z8 : zw (404 + 12 * t.2.1 i + 3) = 404 + 12 * t.2.1 i + 3 := zw_lit (by omega) (by omega)
      have z9 : zw (404 + 12 * t.2.1 i + 4) = 404 + 12 * t.2.1 i + 4 := zw_lit (by omega) (by omega)
      have h := xw_top (hd := [7]) 6 xD5_ok xc_X12_heapAt xa_X12_heapAt (t := 7) rfl h
      simp (maxDischargeDepth := 12) -implicitDefEqProofs [vb_X12_heapAt_0, vb_X12_heapAt_7, vb_X12_heapAt_49, vb_X12_heapAt_55, xI_0, xI_1, xI_3, xI_6, xI_7, xI_14, xI_15, xI_33, xI_36, xI_37, xI_46, xI_49, xI_50, xI_51, xI_52, xI_60, xI_61, xI_62, xw_X12_heapAt_0, xw_X12_heapAt_7, xw_X12_heapAt_49, xw_X12_heapAt_55, zw_lit, xB_c, xB_s, xB_n, i1_c, j2_c, k1_c, jJ_e, xlg, xls, xla, xpd, ppush, zw_m1, zw_m2, zw_m3, gf_12_21, gf_12_26, pf_12_26, tg_12_21, tg_12_26, gv_590_21, gv_590_26, xD1, xD2, xD3, xD4, xD5, hc, e1, z1, z2, z3, z4, z6, z7, z8, z9] at h
      rcases h with ⟨q', h⟩ | ⟨_, h⟩
      · omega
      · obtain ⟨r, H2, ⟨b, rfl, rfl, hb⟩, h⟩ := xc_use h (sp_X12_isSame _ _ _ _ H (by omega) (by rw [hA]; exact hB.2.2.2.2.2.1 k hk.1 hk.2))
        rw [hA] at hb
        rw [← smL_iff (hB.2.2.2.2.2.1 k hk.1 hk.2).1] at hb
        rw [show (t.1 - i).toNat = (t.1 - (i + 1)).toNat + 1 by omega]
        unfold fdR
        rcases hb with ⟨rfl, hs⟩ | ⟨rfl, hs⟩
        · simp (maxDischargeDepth := 12) -implicitDefEqProofs [vb_X12_heapAt_0, vb_X12_heapAt_7, vb_X12_heapAt_49, vb_X12_heapAt_55, xI_0, xI_1, xI_3, xI_6, xI_7, xI_14, xI_15, xI_33, xI_36, xI_37, xI_46, xI_49, xI_50, xI_51, xI_52, xI_60, xI_61, xI_62, xw_X12_heapAt_0, xw_X12_heapAt_7, xw_X12_heapAt_49, xw_X12_heapAt_55, zw_lit, xB_c, xB_s, xB_n, i1_c, j2_c, k1_c, jJ_e, xlg, xls, xla, xpd, ppush, zw_m1, zw_m2, zw_m3, gf_12_21, gf_12_26, pf_12_26, tg_12_21, tg_12_26, gv_590_21, gv_590_26, xD1, xD2, xD3, xD4, xD5] at h
          rw [if_pos hs, if_neg (by omega)]
          exact h
        · simp (maxDischargeDepth := 12) -implicitDefEqProofs [vb_X12_heapAt_0, vb_X12_heapAt_7, vb_X12_heapAt_49, vb_X12_heapAt_55, xI_0, xI_1, xI_3, xI_6, xI_7, xI_14, xI_15, xI_33, xI_36, xI_37, xI_46, xI_49, xI_50, xI_51, xI_52, xI_60, xI_61, xI_62, xw_X12_heapAt_0, xw_X12_heapAt_7, xw_X12_heapAt_49, xw_X12_heapAt_55, zw_lit, xB_c, xB_s, xB_n, i1_c, j2_c, k1_c, jJ_e, xlg, xls, xla, xpd, ppush, zw_m1, zw_m2, zw_m3, gf_12_21, gf_12_26, pf_12_26, tg_12_21, tg_12_26, gv_590_21, gv_590_26, xD1, xD2, xD3, xD4, xD5, z1] at h
          obtain ⟨m, hm, h⟩ := h
          rw [if_neg hs]
          exact ih m hm (i + 1) _ _ (by omega) (by omega) hA hc hF h
theorem sp_X12_heapAt (k : Int) (H : PH) (t : tS) (hk : 0 ≤ k ∧ k < 60) (hB : MB (H 591)) (ht : 0 ≤ t.1 ∧ t.1 ≤ 60) (hf : ∀ h, 0 ≤ h → h < t.1 → 0 ≤ t.2.1 h ∧ t.2.1 h < 60) (hc : H 590 26 = t.1) (hF : ∀ h, 0 ≤ h → h < t.1 → H 601 h = t.2.1 h) : SPEC 206 [(2, 590), (0, k)] H (fun r H' => r = some (0, hpI (H 591) k t) ∧ H' = if hpI (H 591) k t = t.1 then pup (pup H 601 t.1 k) 590 26 (t.1 + 1) else H) := by
  intro E n res h
  have z1 : zw (12 * k) = 12 * k := zw_lit (by omega) (by omega)
  have z2 : zw (404 + 12 * k) = 404 + 12 * k := zw_lit (by omega) (by omega)
  have h := call_runP 5 vm_X12_heapAt h
  have h := xw_top (hd := [7]) 6 xD5_ok xc_X12_heapAt xa_X12_heapAt (t := 0) rfl h
  simp (maxDischargeDepth := 12) -implicitDefEqProofs [vb_X12_heapAt_0, vb_X12_heapAt_7, vb_X12_heapAt_49, vb_X12_heapAt_55, xI_0, xI_1, xI_3, xI_6, xI_7, xI_14, xI_15, xI_33, xI_36, xI_37, xI_46, xI_49, xI_50, xI_51, xI_52, xI_60, xI_61, xI_62, xw_X12_heapAt_0, xw_X12_heapAt_7, xw_X12_heapAt_49, xw_X12_heapAt_55, zw_lit, xB_c, xB_s, xB_n, i1_c, j2_c, k1_c, jJ_e, xlg, xls, xla, xpd, ppush, zw_m1, zw_m2, zw_m3, gf_12_21, gf_12_26, pf_12_26, tg_12_21, tg_12_26, gv_590_21, gv_590_26, xD1, xD2, xD3, xD4, xD5, z1, z2] at h
  obtain ⟨m, hm, h⟩ := h
  have h := lp_heapAt k (H 591) hk hB t ht hf m 0 0 H (by omega) (by omega) rfl hc hF h
  rw [Int.sub_zero] at h
  exact ⟨_, _, h, rfl, rfl⟩
