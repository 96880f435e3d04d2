/-! ===== cheapest ways: numbers alone ===== -/
def upf (f : Int → Int) (i x : Int) : Int → Int := fun j => if j = i then x else f j
def nxt (P : Int → Int) (v : Int) : Int := if v = -1 then -1 else P v
def it (P : Int → Int) : Nat → Int → Int
  | 0, v => v
  | n + 1, v => it P n (nxt P v)
def Ends (P : Int → Int) (v : Int) : Prop := ∃ n, it P n v = -1
def Pot (far : Int) (F B h π : Int → Int) : Prop :=
  (∀ v, 0 ≤ v → v < 84 → -24 ≤ π v ∧ π v ≤ 1000000) ∧ (∀ v, 72 ≤ v → v < 84 → 0 ≤ π v) ∧ (∀ v, 0 ≤ v → v < 72 → 0 < h v → π v ≤ 0) ∧ (∀ s b, 0 ≤ s → s < 72 → 72 ≤ b → b < 84 → F (12 * s + (b - 72)) ≤ far → π s < 1000000 → π b ≤ π s + F (12 * s + (b - 72))) ∧ (∀ s b, 0 ≤ s → s < 72 → 72 ≤ b → b < 84 → F (12 * s + (b - 72)) ≤ far → 0 < B (12 * s + (b - 72)) → π b < 1000000 → π s ≤ π b - F (12 * s + (b - 72)))
def WI (far : Int) (F B h π W P : Int → Int) : Prop :=
  (∀ v, 0 ≤ v → v < 84 → π v ≤ W v ∧ W v ≤ 1000000) ∧ (∀ v, 0 ≤ v → v < 72 → 0 < h v → W v ≤ 0) ∧ (∀ v, 0 ≤ v → v < 84 → P v = -1 → W v = 1000000 ∨ (v < 72 ∧ 0 < h v)) ∧
  (∀ v, 72 ≤ v → v < 84 → P v ≠ -1 → 0 ≤ P v ∧ P v < 72 ∧ W (P v) < 1000000 ∧ F (12 * P v + (v - 72)) ≤ far ∧ W (P v) + F (12 * P v + (v - 72)) ≤ W v) ∧
  (∀ v, 0 ≤ v → v < 72 → P v ≠ -1 → 72 ≤ P v ∧ P v < 84 ∧ W (P v) < 1000000 ∧ F (12 * v + (P v - 72)) ≤ far ∧ 0 < B (12 * v + (P v - 72)) ∧ W (P v) - F (12 * v + (P v - 72)) ≤ W v) ∧
  (∀ v, 0 ≤ v → v < 84 → Ends P v)
section WAYS
variable {far : Int} {F B h π W P : Int → Int}
theorem it_m1 (P : Int → Int) : ∀ n, it P n (-1) = -1
  | 0 => rfl
  | n + 1 => by
    show it P n (nxt P (-1)) = -1
    have : nxt P (-1) = -1 := if_pos rfl
    rw [this]
    exact it_m1 P n
/-- a node's way from another one is of nodes, and what it costs over the numbers π doesn't grow backwards -/
theorem WI_step (hp : Pot far F B h π) (hw : WI far F B h π W P) {v : Int} (h0 : 0 ≤ v) (h1 : v < 84) (hn : P v ≠ -1) : 0 ≤ P v ∧ P v < 84 ∧ W (P v) - π (P v) ≤ W v - π v := by
  obtain ⟨w1, w2, w3, w4, w5, w6⟩ := hw
  obtain ⟨p1, p2, p3, p4, p5⟩ := hp
  by_cases e : 72 ≤ v
  · obtain ⟨a, b, c, d, f⟩ := w4 v e h1 hn
    have := w1 (P v) a (by omega)
    have := p4 (P v) v a b e h1 d (by omega)
    omega
  · obtain ⟨a, b, c, d, f, q⟩ := w5 v h0 (by omega) hn
    have := w1 (P v) (by omega) b
    have := p5 v (P v) h0 (by omega) a b d f (by omega)
    omega
theorem chain_le (hp : Pot far F B h π) (hw : WI far F B h π W P) : ∀ (n : Nat) (u : Int), 0 ≤ u → u < 84 → it P n u ≠ -1 → 0 ≤ it P n u ∧ it P n u < 84 ∧ W (it P n u) - π (it P n u) ≤ W u - π u
  | 0, u, h0, h1, _ => ⟨h0, h1, Int.le_refl _⟩
  | n + 1, u, h0, h1, hn => by
    have e1 : nxt P u = P u := if_neg (by omega)
    have e0 : it P (n + 1) u = it P n (P u) := by
      show it P n (nxt P u) = it P n (P u)
      rw [e1]
    rw [e0] at hn ⊢
    have e2 : P u ≠ -1 := fun q => hn (by rw [q]; exact it_m1 P n)
    obtain ⟨a, b, c⟩ := WI_step hp hw h0 h1 e2
    obtain ⟨d, e, f⟩ := chain_le hp hw n (P u) a b hn
    omega
theorem it_upd {v u : Int} : ∀ (n : Nat) (x : Int), (∀ m, m < n → it P m x ≠ v) → it (upf P v u) n x = it P n x
  | 0, _, _ => rfl
  | n + 1, x, hx => by
    have h0 : x ≠ v := hx 0 (by omega)
    show it (upf P v u) n (nxt (upf P v u) x) = it P n (nxt P x)
    have e : nxt (upf P v u) x = nxt P x := by
      unfold nxt upf
      split
      · rfl
      · first | rfl | rw [if_neg h0]
    rw [e]
    exact it_upd n _ (fun m hm => hx (m + 1) (by omega))
theorem ends_upd (hp : Pot far F B h π) (hw : WI far F B h π W P) {v u x : Int} (u0 : 0 ≤ u) (u1 : u < 84) (v0 : 0 ≤ v) (hx : x < W v) (hr : W u - π u ≤ x - π v) : ∀ y, 0 ≤ y → y < 84 → Ends (upf P v u) y := by
  have hno : ∀ m, it P m u ≠ v := by
    intro m q
    have := (chain_le hp hw m u u0 u1 (by omega)).2.2
    rw [q] at this
    omega
  have hu : Ends (upf P v u) u := by
    obtain ⟨n, hn⟩ := hw.2.2.2.2.2 u u0 u1
    exact ⟨n, by rw [it_upd n u (fun m _ => hno m)]; exact hn⟩
  have hv : Ends (upf P v u) v := by
    obtain ⟨n, hn⟩ := hu
    refine ⟨n + 1, ?_⟩
    show it (upf P v u) n (nxt (upf P v u) v) = -1
    have e : nxt (upf P v u) v = u := by
      unfold nxt upf
      rw [if_neg (by omega), if_pos rfl]
    rw [e]
    exact hn
  have key : ∀ (n : Nat) (y : Int), it P n y = -1 → Ends (upf P v u) y := by
    intro n
    induction n with
    | zero =>
      intro y hy
      exact ⟨0, hy⟩
    | succ n ih =>
      intro y hy
      by_cases e : y = v
      · rw [e]
        exact hv
      · obtain ⟨k, hk⟩ := ih (nxt P y) hy
        refine ⟨k + 1, ?_⟩
        show it (upf P v u) k (nxt (upf P v u) y) = -1
        have e2 : nxt (upf P v u) y = nxt P y := by
          unfold nxt upf
          split
          · rfl
          · first | rfl | rw [if_neg e]
        rw [e2]
        exact hk
  intro y y0 y1
  obtain ⟨n, hn⟩ := hw.2.2.2.2.2 y y0 y1
  exact key n y hn
theorem upf_eq {f : Int → Int} {i x : Int} : upf f i x i = x := if_pos rfl
theorem upf_ne {f : Int → Int} {i x j : Int} (h : j ≠ i) : upf f i x j = f j := if_neg h
/-- a bill is reached more cheaply from a source -/
theorem WI_fwd (hp : Pot far F B h π) (hw : WI far F B h π W P) {s b : Int} (s0 : 0 ≤ s) (s1 : s < 72) (b0 : 72 ≤ b) (b1 : b < 84) (hF : F (12 * s + (b - 72)) ≤ far) (hs : W s < 1000000) (hx : W s + F (12 * s + (b - 72)) < W b) : WI far F B h π (upf W b (W s + F (12 * s + (b - 72)))) (upf P b s) := by
  have hp0 := hp
  have hw0 := hw
  obtain ⟨w1, w2, w3, w4, w5, w6⟩ := hw
  obtain ⟨p1, p2, p3, p4, p5⟩ := hp
  have q1 := w1 s s0 (by omega)
  have q2 := p4 s b s0 s1 b0 b1 hF (by omega)
  have q3 := w1 b (by omega) b1
  have hlow : ∀ y, upf W b (W s + F (12 * s + (b - 72))) y ≤ W y := fun y => by
    unfold upf
    split
    · rename_i e; rw [e]; omega
    · exact Int.le_refl _
  refine ⟨fun v v0 v1 => ?_, fun v v0 v1 hv => ?_, fun v v0 v1 hv => ?_, fun v v0 v1 hv => ?_, fun v v0 v1 hv => ?_, ends_upd hp0 hw0 s0 (by omega) (by omega) hx (by omega)⟩
  · by_cases e : v = b
    · rw [e, upf_eq]
      omega
    · rw [upf_ne e]
      exact w1 v v0 v1
  · rw [upf_ne (by omega)]
    exact w2 v v0 v1 hv
  · by_cases e : v = b
    · rw [e, upf_eq] at hv
      omega
    · rw [upf_ne e] at hv ⊢
      exact w3 v v0 v1 hv
  · by_cases e : v = b
    · rw [e, upf_eq, upf_eq, upf_ne (by omega)]
      exact ⟨s0, s1, hs, hF, Int.le_refl _⟩
    · rw [upf_ne e] at hv ⊢
      obtain ⟨a, c, d, f, q⟩ := w4 v v0 v1 hv
      rw [upf_ne e]
      have := hlow (P v)
      exact ⟨a, c, by omega, f, by omega⟩
  · have e : v ≠ b := by omega
    rw [upf_ne e] at hv ⊢
    obtain ⟨a, c, d, f, q, r⟩ := w5 v v0 v1 hv
    rw [upf_ne e]
    have := hlow (P v)
    exact ⟨a, c, by omega, f, q, by omega⟩
/-- a source is reached more cheaply from a bill that it brings to -/
theorem WI_bwd (hp : Pot far F B h π) (hw : WI far F B h π W P) {s b : Int} (s0 : 0 ≤ s) (s1 : s < 72) (b0 : 72 ≤ b) (b1 : b < 84) (hF : F (12 * s + (b - 72)) ≤ far) (hB : 0 < B (12 * s + (b - 72))) (hs : W b < 1000000) (hx : W b - F (12 * s + (b - 72)) < W s) : WI far F B h π (upf W s (W b - F (12 * s + (b - 72)))) (upf P s b) := by
  have hp0 := hp
  have hw0 := hw
  obtain ⟨w1, w2, w3, w4, w5, w6⟩ := hw
  obtain ⟨p1, p2, p3, p4, p5⟩ := hp
  have q1 := w1 b (by omega) b1
  have q2 := p5 s b s0 s1 b0 b1 hF hB (by omega)
  have q3 := w1 s s0 (by omega)
  have hlow : ∀ y, upf W s (W b - F (12 * s + (b - 72))) y ≤ W y := fun y => by
    unfold upf
    split
    · rename_i e; rw [e]; omega
    · exact Int.le_refl _
  refine ⟨fun v v0 v1 => ?_, fun v v0 v1 hv => ?_, fun v v0 v1 hv => ?_, fun v v0 v1 hv => ?_, fun v v0 v1 hv => ?_, ends_upd hp0 hw0 (by omega) b1 s0 hx (by omega)⟩
  · by_cases e : v = s
    · rw [e, upf_eq]
      omega
    · rw [upf_ne e]
      exact w1 v v0 v1
  · have := hlow v
    have := w2 v v0 v1 hv
    omega
  · by_cases e : v = s
    · rw [e, upf_eq] at hv
      omega
    · rw [upf_ne e] at hv ⊢
      exact w3 v v0 v1 hv
  · have e : v ≠ s := by omega
    rw [upf_ne e] at hv ⊢
    obtain ⟨a, c, d, f, q⟩ := w4 v v0 v1 hv
    rw [upf_ne e]
    have := hlow (P v)
    exact ⟨a, c, by omega, f, by omega⟩
  · by_cases e : v = s
    · rw [e, upf_eq, upf_eq, upf_ne (by omega)]
      exact ⟨b0, b1, hs, hF, hB, Int.le_refl _⟩
    · rw [upf_ne e] at hv ⊢
      obtain ⟨a, c, d, f, q, r⟩ := w5 v v0 v1 hv
      rw [upf_ne e]
      have := hlow (P v)
      exact ⟨a, c, by omega, f, q, by omega⟩
/-- where nothing is cheaper any more, and bales have gone along the ways, the ways are the next numbers -/
theorem Pot_next {B' h' : Int → Int} (hp : Pot far F B h π) (hw : WI far F B h π W P) (hf : ∀ s b, 0 ≤ s → s < 72 → 72 ≤ b → b < 84 → F (12 * s + (b - 72)) ≤ far → (W s < 1000000 → W b ≤ W s + F (12 * s + (b - 72))) ∧ (0 < B (12 * s + (b - 72)) → W b < 1000000 → W s ≤ W b - F (12 * s + (b - 72)))) (hB : ∀ s b, 0 ≤ s → s < 72 → 72 ≤ b → b < 84 → 0 < B' (12 * s + (b - 72)) → 0 < B (12 * s + (b - 72)) ∨ P b = s) (hh : ∀ v, 0 ≤ v → v < 72 → 0 < h' v → 0 < h v) : Pot far F B' h' W := by
  obtain ⟨w1, w2, w3, w4, w5, w6⟩ := hw
  obtain ⟨p1, p2, p3, p4, p5⟩ := hp
  refine ⟨fun v v0 v1 => ?_, fun v v0 v1 => ?_, fun v v0 v1 hv => w2 v v0 v1 (hh v v0 v1 hv), fun s b s0 s1 b0 b1 hF hs => (hf s b s0 s1 b0 b1 hF).1 hs, fun s b s0 s1 b0 b1 hF hb hs => ?_⟩
  · have := w1 v v0 v1
    have := p1 v v0 v1
    omega
  · have := w1 v (by omega) v1
    have := p2 v v0 v1
    omega
  · rcases hB s b s0 s1 b0 b1 hb with q | q
    · exact (hf s b s0 s1 b0 b1 hF).2 q hs
    · have h4 := w4 b b0 b1 (by omega)
      rw [q] at h4
      have := (hf s b s0 s1 b0 b1 hF).1 (by omega)
      omega
end WAYS
