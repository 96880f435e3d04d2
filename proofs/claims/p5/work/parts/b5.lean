/-! what was told is within its bounds -/
def dB3 (n : Nat) (v : Int) : Prop := n ≤ 3 ∧ 0 ≤ v ∧ v ≤ 999 ∧ (n = 1 → v ≤ 99) ∧ (n = 2 → v ≤ 9) ∧ (n = 3 → v = 0)
theorem dgF_3 {sz : Int} {w : Int → Int} : ∀ (n : Nat) (a v : Int), dB3 n v → 0 ≤ (dgF sz w n a v).1 ∧ (dgF sz w n a v).1 ≤ 999
  | 0, a, v, h => ⟨h.2.1, h.2.2.1⟩
  | n + 1, a, v, h => by
    unfold dgF
    split
    · rename_i c
      refine dgF_3 n (a + 1) _ ?_
      unfold dB3 at h ⊢
      omega
    · exact ⟨h.2.1, h.2.2.1⟩
theorem ML_row {A B : Int → Int} (h : ML A) (e : ∀ j, 10 ≤ j → j < 76 → B j = A j) : ML B := by
  obtain ⟨h1, h2⟩ := h
  have h60 := h1.2.1
  unfold ML
  rw [e 10 (by decide) (by decide), e 11 (by decide) (by decide)]
  exact ⟨WFL_eq h1 (fun k hk => (e _ (by omega) (by omega)).symm), h2⟩
section OKT
variable {sz : Int} {w : Int → Int} {a : Int} {B : Int → Int}
theorem OKR_bl (hw : ∀ i, 0 ≤ i → i < sz → 0 ≤ w i ∧ w i ≤ 255) (ha : 0 ≤ a) (h : OKR B) (hk : blK sz w a B) : OKR (blR sz w a B) := by
  obtain ⟨h1, h2, h3, h4⟩ := h
  have a0 := h1.1
  have e0 : blR sz w a B 0 = B 0 + 1 := blR_0
  have lo : ∀ j, 1 ≤ j → j < 92 → blR sz w a B j = B j := fun j j0 j1 => blR_lo (by omega) (by omega)
  have n12 := hk.1
  refine ⟨MB_bl hw ha h1 hk, ML_row h2 (fun j j0 j1 => lo j (by omega) (by omega)), ?_, fun b b0 b1 => ?_, fun k k0 k1 => ?_⟩
  · unfold OKS
    rw [lo 3 (by decide) (by decide), lo 4 (by decide) (by decide), lo 5 (by decide) (by decide), lo 6 (by decide) (by decide), lo 7 (by decide) (by decide), lo 8 (by decide) (by decide)]
    exact h3
  · rw [e0] at b1
    by_cases e : b = B 0
    · obtain ⟨k1, k2, k3, k4, k5⟩ := blR_k (sz := sz) (w := w) (a := a) e a0.1 hk.2.1.2
      rw [k1, k2, k3, k5]
      have d3 := dgF_3 (sz := sz) (w := w) 3 (b2F sz w a + 1) 0 (by unfold dB3; omega)
      have d4 := dgF_rg (sz := sz) (w := w) 4 ((b3F sz w a).2 + 1) 0 (by unfold dB; omega)
      have n3 := dgF_ne (sz := sz) (w := w) (n := 3) (a := b2F sz w a + 1) (by decide) hk.2.2.2.2.1
      have n4 := dgF_ne (sz := sz) (w := w) (n := 4) (a := (b3F sz w a).2 + 1) (by decide) hk.2.2.2.2.2.2.1
      unfold b3F at k1 ⊢
      unfold b4F b3F
      unfold b3F at d4 n4
      exact ⟨by omega, by omega, by decide, fun i i0 i1 => by omega⟩
    · have q : ∀ j, 92 + 26 * b ≤ j → j < 92 + 26 * b + 26 → blR sz w a B j = B j := fun j j0 j1 => blR_lo (by omega) (by omega)
      have r6 := h1.2.2.2.2.1 b b0 (by omega)
      obtain ⟨y1, y2, y3, y4⟩ := h4.1 b b0 (by omega)
      rw [q _ (by omega) (by omega), q _ (by omega) (by omega), q _ (by omega) (by omega), q (92 + 26 * b + 13) (by omega) (by omega)]
      exact ⟨y1, y2, y3, fun i i0 i1 => by rw [q _ (by omega) (by omega), q _ (by omega) (by omega)]; exact y4 i i0 i1⟩
  · rw [lo 2 (by decide) (by decide)] at k1
    have q : ∀ j, 404 ≤ j → blR sz w a B j = B j := fun j j0 => blR_hi (by omega) (by omega)
    rw [q _ (by omega), q _ (by omega), q _ (by omega)]
    exact h4.2 k k0 k1
theorem OKR_cp (hw : ∀ i, 0 ≤ i → i < sz → 0 ≤ w i ∧ w i ≤ 255) (ha : 0 ≤ a) (h : OKR B) (hk : cpK sz w a B) : OKR (cpR sz w a B) := by
  obtain ⟨h1, h2, h3, h4⟩ := h
  have a0 := h1.1
  have a1 := h1.2.1
  have n8 := hk.1
  have o : ∀ j, ¬ j = 1 → ¬ (76 ≤ j ∧ j < 92) → cpR sz w a B j = B j := fun j j0 j1 => by
    unfold cpR
    rw [xup_n j0, xup_n (by omega), xup_n (by omega)]
  refine ⟨MB_cp hw ha h1 hk, ML_row h2 (fun j j0 j1 => o j (by omega) (by omega)), ?_, fun b b0 b1 => ?_, fun k k0 k1 => ?_⟩
  · unfold OKS
    rw [o 3 (by decide) (by decide), o 4 (by decide) (by decide), o 5 (by decide) (by decide), o 6 (by decide) (by decide), o 7 (by decide) (by decide), o 8 (by decide) (by decide)]
    exact h3
  · rw [o 0 (by decide) (by decide)] at b1
    rw [o _ (by omega) (by omega), o _ (by omega) (by omega), o _ (by omega) (by omega), o (92 + 26 * b + 13) (by omega) (by omega)]
    obtain ⟨y1, y2, y3, y4⟩ := h4.1 b b0 b1
    exact ⟨y1, y2, y3, fun i i0 i1 => by rw [o _ (by omega) (by omega), o _ (by omega) (by omega)]; exact y4 i i0 i1⟩
  · rw [o 2 (by decide) (by decide)] at k1
    rw [o _ (by omega) (by omega), o _ (by omega) (by omega), o _ (by omega) (by omega)]
    exact h4.2 k k0 k1
theorem OKR_ln (hw : ∀ i, 0 ≤ i → i < sz → 0 ≤ w i ∧ w i ≤ 255) (ha : 0 ≤ a) (h : OKR B) (hk : lnK sz w a B) : OKR (lnR sz w a B) := by
  obtain ⟨h1, h2, h3, h4⟩ := h
  have a2 := h1.2.2.1
  have n60 := hk.1
  have o : ∀ j, ¬ j = 2 → j < 404 + 12 * B 2 → lnR sz w a B j = B j := fun j j0 j1 => lnR_o j0 (Or.inl j1) hk
  have e2 : lnR sz w a B 2 = B 2 + 1 := if_pos rfl
  refine ⟨MB_ln hw ha h1 hk, ML_row h2 (fun j j0 j1 => o j (by omega) (by omega)), ?_, fun b b0 b1 => ?_, fun k k0 k1 => ?_⟩
  · unfold OKS
    rw [o 3 (by decide) (by omega), o 4 (by decide) (by omega), o 5 (by decide) (by omega), o 6 (by decide) (by omega), o 7 (by decide) (by omega), o 8 (by decide) (by omega)]
    exact h3
  · rw [o 0 (by decide) (by omega)] at b1
    have a0 := h1.1
    have r6 := h1.2.2.2.2.1 b b0 (by omega)
    rw [o _ (by omega) (by omega), o _ (by omega) (by omega), o _ (by omega) (by omega), o (92 + 26 * b + 13) (by omega) (by omega)]
    obtain ⟨y1, y2, y3, y4⟩ := h4.1 b b0 b1
    exact ⟨y1, y2, y3, fun i i0 i1 => by rw [o _ (by omega) (by omega), o _ (by omega) (by omega)]; exact y4 i i0 i1⟩
  · rw [e2] at k1
    by_cases e : k = B 2
    · obtain ⟨s1, s2, s3, s4, s5⟩ := lnR_k h1 hk
      rw [e, s1, s2, s3]
      have d3 := dgF_3 (sz := sz) (w := w) 3 (l2F sz w a + 1) 0 (by unfold dB3; omega)
      have n3 := dgF_ne (sz := sz) (w := w) (n := 3) (a := l2F sz w a + 1) (by decide) hk.2.2.2.2.2.2.2.1
      have q1 := hk.2.1
      have q2 := hk.2.2.2.1
      unfold l3F
      exact ⟨by omega, by omega, by omega⟩
    · rw [o _ (by omega) (by omega), o _ (by omega) (by omega), o _ (by omega) (by omega)]
      exact h4.2 k k0 (by omega)
theorem OKR_it (hw : ∀ i, 0 ≤ i → i < sz → 0 ≤ w i ∧ w i ≤ 255) (ha : 0 ≤ a) (h : OKR B) (hk : itK sz w a B) : OKR (itR sz w a B) := by
  unfold itR
  rcases hk with ⟨c, k⟩ | ⟨c, k⟩ | ⟨c, k⟩
  · rw [if_pos c]
    exact OKR_bl hw ha h k
  · rw [if_neg (by omega), if_pos c]
    exact OKR_cp hw ha h k
  · rw [if_neg (by omega), if_neg (by omega)]
    exact OKR_ln hw ha h k
end OKT
theorem OKR_tx {sz : Int} {w : Int → Int} (hw : ∀ i, 0 ≤ i → i < sz → 0 ≤ w i ∧ w i ≤ 255) : ∀ (n : Nat) (a : Int) (B B' : Int → Int), 0 ≤ a → OKR B → txK sz w n a B B' → OKR B'
  | 0, a, B, B', _, hB, h => by
    obtain ⟨_, rfl⟩ := h
    exact hB
  | n + 1, a, B, B', ha, hB, h => by
    obtain ⟨h0, h1, h2⟩ := h
    have gt := itE_gt (sz := sz) (w := w) (a := a)
    exact OKR_tx hw n _ _ _ (by omega) (OKR_it hw ha hB h1) h2
