/-! what is brought to a bill, summed -/
def sbF (B : Int → Int) (b : Int) : Nat → Int → Int
  | 0, _ => 0
  | n + 1, s => B (12 * s + b) + sbF B b n (s + 1)
theorem sb_nn {B : Int → Int} (b : Int) (h : ∀ j, 0 ≤ B j) : ∀ (n : Nat) (s : Int), 0 ≤ sbF B b n s
  | 0, _ => Int.le_refl _
  | n + 1, s => by
    have := sb_nn b h n (s + 1)
    have := h (12 * s + b)
    unfold sbF
    omega
theorem sb_up {B : Int → Int} {b k v : Int} (hb : 0 ≤ b ∧ b < 12) : ∀ (n : Nat) (s : Int), sbF (xup B k v) b n s = sbF B b n s + (if k % 12 = b ∧ s ≤ k / 12 ∧ k / 12 < s + n then v - B k else 0)
  | 0, s => by
    rw [if_neg (by omega)]
    rfl
  | n + 1, s => by
    have ih := sb_up (B := B) (k := k) (v := v) hb n (s + 1)
    unfold sbF
    rw [ih]
    have e1 : xup B k v (12 * s + b) = if 12 * s + b = k then v else B (12 * s + b) := rfl
    rw [e1]
    by_cases e : 12 * s + b = k
    · rw [if_pos e, if_neg (by omega), if_pos (by omega), e]
      omega
    · rw [if_neg e]
      by_cases p : k % 12 = b ∧ s + 1 ≤ k / 12 ∧ k / 12 < s + 1 + n
      · rw [if_pos p, if_pos (by omega)]
        omega
      · rw [if_neg p, if_neg (by omega)]
        omega
theorem mto_of {B : Int → Int} {b : Int} (h : ∀ j, 0 ≤ B j) : ∀ (n : Nat) (s v : Int), 0 ≤ v → v + sbF B b n s ≤ 2147483647 → mtoF B b n s v = v + sbF B b n s
  | 0, s, v, _, _ => by
    unfold mtoF sbF
    omega
  | n + 1, s, v, h0, h1 => by
    have a := sb_nn b h n (s + 1)
    have c := h (12 * s + b)
    unfold sbF at h1 ⊢
    unfold mtoF
    rw [zw_lit (x := v + B (12 * s + b)) (by omega) (by omega), mto_of h n (s + 1) _ (by omega) (by omega)]
    omega
/-- what was brought and what is short make up what was wanted -/
def MJ (A : Int → Int) (s : mS) : Prop := (∀ j, 0 ≤ s.2.2.1 j) ∧ ∀ b, 0 ≤ b → b < 12 → sbF s.2.2.1 b 72 0 + s.2.1 b = wntA A b
theorem mtS_J {A : Int → Int} {d k : Int} {s : mS} (hd : d ≤ 24) (hk : 0 ≤ k ∧ k < 864) (hI : MI A d k s) (h : MJ A s) : MJ A (mtS A d k s) := by
  obtain ⟨h1, h2, h3, h4, h5, h6⟩ := hI
  unfold mtS
  split
  · rename_i e
    obtain ⟨o, w, _⟩ := farK_lt hd e
    have a := h1 _ o
    have b := h3 (k % 12)
    have wb := wnt_in A (k % 12)
    have k0 := h6 k (Or.inr ⟨e, Int.le_refl _⟩)
    have zb : zw (s.2.1 (k % 12) - min (s.1 (k / 12)) (s.2.1 (k % 12))) = s.2.1 (k % 12) - min (s.1 (k / 12)) (s.2.1 (k % 12)) := zw_lit (by omega) (by omega)
    rw [zb]
    refine ⟨fun j => ?_, fun x x0 x1 => ?_⟩
    · show 0 ≤ xup s.2.2.1 k _ j
      unfold xup
      split
      · omega
      · exact h.1 j
    · show sbF (xup s.2.2.1 k _) x 72 0 + xup s.2.1 (k % 12) _ x = wntA A x
      have g := h.2 x x0 x1
      rw [sb_up ⟨x0, x1⟩, k0]
      unfold xup
      by_cases q : x = k % 12
      · rw [if_pos q, if_pos (by omega)]
        rw [q] at g ⊢
        omega
      · rw [if_neg q, if_neg (fun p => q p.1.symm)]
        omega
  · exact h
theorem mtF_J {A : Int → Int} {d : Int} (hd : d ≤ 24) : ∀ (n : Nat) (k : Int) (s : mS), 0 ≤ k → k + n ≤ 864 → MI A d k s → MJ A s → MJ A (mtF A d n k s)
  | 0, _, _, _, _, _, h => h
  | n + 1, k, s, h0, h1, hI, h => mtF_J hd n (k + 1) _ (by omega) (by omega) (mtS_I hd hI) (mtS_J hd ⟨h0, by omega⟩ hI h)
theorem mtG_J {A : Int → Int} : ∀ (n : Nat) (d : Int) (s : mS), d + n ≤ 25 → MI A d 0 s → MJ A s → ∃ e, MI A e 0 (mtG A n d s) ∧ MJ A (mtG A n d s)
  | 0, d, s, _, hI, h => ⟨d, hI, h⟩
  | n + 1, d, s, h1, hI, h => by
    have I' := mtF_I (by omega) 864 0 s hI
    exact mtG_J n (d + 1) _ (by omega) (MI_d I') (mtF_J (by omega) 864 0 s (by omega) (by omega) hI h)
theorem mtZ_J {A : Int → Int} (hf : 0 ≤ A 4 ∧ A 4 ≤ 24) : ∃ e, MI A e 0 (mtZ A) ∧ MJ A (mtZ A) := by
  refine mtG_J (A 4 + 1).toNat 0 _ (by omega) (MI_0 A) ⟨fun _ => Int.le_refl _, fun b b0 b1 => ?_⟩
  have z : ∀ (n : Nat) (s : Int), sbF (fun _ => 0) b n s = 0 := by
    intro n
    induction n with
    | zero => exact fun _ => rfl
    | succ n ih =>
      intro s
      unfold sbF
      rw [ih]
      rfl
  show sbF (fun _ => 0) b 72 0 + wntA A b = wntA A b
  rw [z]
  omega
theorem mtoA_eq {A : Int → Int} (hf : 0 ≤ A 4 ∧ A 4 ≤ 24) {b : Int} (hb : 0 ≤ b ∧ b < 12) : mtoA A b = zw (wntA A b - (mtZ A).2.1 b) := by
  obtain ⟨e, hI, h1, h2⟩ := mtZ_J hf
  have g := h2 b hb.1 hb.2
  have l := hI.2.2.1 b
  have w := wnt_in A b
  have z : zw (wntA A b - (mtZ A).2.1 b) = wntA A b - (mtZ A).2.1 b := zw_lit (by omega) (by omega)
  unfold mtoA
  rw [mto_of h1 72 0 0 (Int.le_refl _) (by omega), z]
  omega
