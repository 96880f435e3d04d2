/-! ===== the model's law is read ===== -/
def sg1 (x : Int) : Int := if x = 0 then 0 else 1
theorem sg1_b (x : Int) : 0 ≤ sg1 x ∧ sg1 x ≤ 1 := by
  unfold sg1
  split <;> omega
theorem sg1_0 : sg1 0 = 0 := rfl
theorem sg1_1 {x : Int} (h : x ≠ 0) : sg1 x = 1 := if_neg h
def PC (s p : Int → Int) : Nat → Int
  | 0 => 0
  | m + 1 => PC s p m + sg1 (s m) + sg1 (p m)
theorem PC_b (s p : Int → Int) : ∀ m : Nat, 0 ≤ PC s p m ∧ PC s p m ≤ 2 * m
  | 0 => ⟨Int.le_refl _, Int.le_refl _⟩
  | m + 1 => by
    have := PC_b s p m
    have := sg1_b (s m)
    have := sg1_b (p m)
    show 0 ≤ PC s p m + sg1 (s m) + sg1 (p m) ∧ PC s p m + sg1 (s m) + sg1 (p m) ≤ 2 * ((m + 1 : Nat) : Int)
    omega
theorem PC_congr {s p s' p' : Int → Int} : ∀ m : Nat, (∀ j : Int, 0 ≤ j → j < m → s' j = s j ∧ p' j = p j) → PC s' p' m = PC s p m
  | 0, _ => rfl
  | m + 1, h => by
    show PC s' p' m + sg1 (s' m) + sg1 (p' m) = PC s p m + sg1 (s m) + sg1 (p m)
    have := h m (by omega) (by omega)
    rw [PC_congr m (fun j a b => h j a (by omega)), this.1, this.2]
def nf (H : PH) : Nat → Int := fun k => H 595 ((k : Int) - 12)
def LN (H : PH) (dep : Int) : Prop := ldp (nf H) (H 590 10).toNat = dep ∧ 0 ≤ H 590 10 ∧ ∀ k : Nat, (k : Int) < H 590 10 → (nf H (12 + k) < 11000 → ldp (nf H) k ≤ 33) ∧ (¬ nf H (12 + k) < 11000 → 2 ≤ ldp (nf H) k)
theorem ldp_lt {f f' : Nat → Int} : ∀ n : Nat, (∀ k, k < n → f' (12 + k) = f (12 + k)) → ldp f' n = ldp f n
  | 0, _ => rfl
  | n + 1, h => by
    show (if f' (12 + n) < 11000 then ldp f' n + 1 else ldp f' n - 1) = if f (12 + n) < 11000 then ldp f n + 1 else ldp f n - 1
    rw [h n (by omega), ldp_lt n (fun k hk => h k (by omega))]
theorem LN_congr {H H' : PH} {d : Int} (h : LN H d) (e1 : H' 595 = H 595) (e2 : H' 590 10 = H 590 10) : LN H' d := by
  unfold LN nf
  rw [e1, e2]
  exact h
theorem LN_push {H : PH} {d x : Int} (h : LN H d) (hx : (x < 11000 ∧ d ≤ 33) ∨ (¬ x < 11000 ∧ 2 ≤ d)) : LN (pup (pup H 595 (H 590 10) x) 590 10 (H 590 10 + 1)) (if x < 11000 then d + 1 else d - 1) := by
  obtain ⟨h1, h2, h3⟩ := h
  have e10 : pup (pup H 595 (H 590 10) x) 590 10 (H 590 10 + 1) 590 10 = H 590 10 + 1 := if_pos ⟨rfl, rfl⟩
  have en : ∀ k : Nat, (k : Int) ≠ H 590 10 → nf (pup (pup H 595 (H 590 10) x) 590 10 (H 590 10 + 1)) (12 + k) = nf H (12 + k) := by
    intro k hk
    unfold nf
    rw [pup_row (by decide)]
    exact if_neg (fun q => by have := q.2; omega)
  have ex : nf (pup (pup H 595 (H 590 10) x) 590 10 (H 590 10 + 1)) (12 + (H 590 10).toNat) = x := by
    unfold nf
    rw [pup_row (by decide)]
    exact if_pos ⟨rfl, by omega⟩
  have hl : ∀ k : Nat, (k : Int) ≤ H 590 10 → ldp (nf (pup (pup H 595 (H 590 10) x) 590 10 (H 590 10 + 1))) k = ldp (nf H) k := fun k hk => ldp_lt k (fun j hj => en j (by omega))
  unfold LN
  rw [e10]
  refine ⟨?_, by omega, fun k hk => ?_⟩
  · rw [show (H 590 10 + 1).toNat = (H 590 10).toNat + 1 by omega]
    show (if nf _ (12 + (H 590 10).toNat) < 11000 then ldp _ (H 590 10).toNat + 1 else ldp _ (H 590 10).toNat - 1) = _
    rw [ex, hl _ (by omega), h1]
  · rw [hl k (by omega)]
    by_cases c : (k : Int) = H 590 10
    · have c2 : k = (H 590 10).toNat := by omega
      rw [c2, ex, h1]
      rcases hx with ⟨a, b⟩ | ⟨a, b⟩
      · exact ⟨fun _ => b, fun q => (q a).elim⟩
      · exact ⟨fun q => (a q).elim, fun _ => b⟩
    · rw [en k c]
      exact h3 k (by omega)
def PCH (H : PH) : Int := PC (H 596) (H 597) ((H 590 14).toNat + 1)
/-- before a thing (e = 0) or behind one (e = 1), with so much room -/
def LSt (H : PH) (e w : Int) : Prop := (0 ≤ H 590 14 ∧ H 590 14 ≤ 8) ∧ (∀ j, 0 ≤ j → j ≤ H 590 14 → 0 ≤ H 596 j ∧ H 596 j ≤ 255 ∧ 0 ≤ H 597 j ∧ H 597 j ≤ 255) ∧ LN H (PCH H + e) ∧ H 590 10 + (PCH H + e) + w ≤ 2 * H 590 11 ∧ 0 ≤ H 590 11 ∧ H 590 11 ≤ 30
theorem LSt_congr {H H' : PH} {e w : Int} (h : LSt H e w) (e5 : H' 595 = H 595) (e6 : H' 596 = H 596) (e7 : H' 597 = H 597) (f10 : H' 590 10 = H 590 10) (f11 : H' 590 11 = H 590 11) (f14 : H' 590 14 = H 590 14) : LSt H' e w := by
  have ep : PCH H' = PCH H := by
    unfold PCH
    rw [e6, e7, f14]
  unfold LSt
  rw [ep, f14, f10, f11, e6, e7]
  exact ⟨h.1, h.2.1, LN_congr h.2.2.1 e5 f10, h.2.2.2⟩
theorem LSt_at {H : PH} {e w i v : Int} (h : LSt H e w) (hi : i = 5 ∨ i = 6 ∨ i = 7) : LSt (pup H 590 i v) e w := by
  have q : ∀ j : Int, j ≠ i → pup H 590 i v 590 j = H 590 j := fun j hj => if_neg (fun z => hj z.2)
  exact LSt_congr h (pup_row (by decide)) (pup_row (by decide)) (pup_row (by decide)) (q 10 (by omega)) (q 11 (by omega)) (q 14 (by omega))
theorem LN_at {H : PH} {d i v : Int} (h : LN H d) (hi : i = 5 ∨ i = 6 ∨ i = 7 ∨ i = 11 ∨ i = 4) : LN (pup H 590 i v) d := LN_congr h (pup_row (by decide)) (if_neg (fun z => by have := z.2; omega))
theorem LSt_more {H : PH} {e w : Int} (h : LSt H e w) (ht : H 590 11 ≤ 29) : LSt (pup H 590 11 (H 590 11 + 1)) e (w + 2) := by
  have q : ∀ j : Int, j ≠ 11 → pup H 590 11 (H 590 11 + 1) 590 j = H 590 j := fun j hj => if_neg (fun z => hj z.2)
  have q11 : pup H 590 11 (H 590 11 + 1) 590 11 = H 590 11 + 1 := if_pos ⟨rfl, rfl⟩
  obtain ⟨h1, h2, h3, h4, h5, h6⟩ := h
  have ep : PCH (pup H 590 11 (H 590 11 + 1)) = PCH H := by
    unfold PCH
    rw [pup_row (by decide), pup_row (by decide), q 14 (by omega)]
  unfold LSt
  rw [ep, q 14 (by omega), q 10 (by omega), q11, pup_row (by decide), pup_row (by decide)]
  exact ⟨h1, h2, LN_at h3 (by omega), by omega, by omega, by omega⟩
theorem LSt_weak {H : PH} {e w w' : Int} (h : LSt H e w) (hw : w' ≤ w) : LSt H e w' := ⟨h.1, h.2.1, h.2.2.1, by have := h.2.2.2.1; omega, h.2.2.2.2⟩
theorem LSt_pc {H : PH} {e w : Int} (h : LSt H e w) : 0 ≤ PCH H ∧ PCH H ≤ 18 := by
  have := PC_b (H 596) (H 597) ((H 590 14).toNat + 1)
  have := h.1
  unfold PCH
  omega
theorem LSt_n {H : PH} {e w : Int} (h : LSt H e w) (e0 : 0 ≤ e) (w0 : 0 ≤ w) : 0 ≤ H 590 10 ∧ H 590 10 ≤ 60 - e - w := by
  have := LSt_pc h
  have := h.2.2.1.2.1
  have := h.2.2.2
  omega
/-- a value -/
theorem LSt_val {H : PH} {x : Int} (h : LSt H 0 2) (hx : x < 11000) : LSt (pup (pup H 595 (H 590 10) x) 590 10 (H 590 10 + 1)) 1 0 := by
  have hp := LSt_pc h
  obtain ⟨h1, h2, h3, h4, h5, h6⟩ := h
  have q : ∀ j : Int, j ≠ 10 → pup (pup H 595 (H 590 10) x) 590 10 (H 590 10 + 1) 590 j = H 590 j := fun j hj => by
    have : pup (pup H 595 (H 590 10) x) 590 10 (H 590 10 + 1) 590 j = pup H 595 (H 590 10) x 590 j := if_neg (fun z => hj z.2)
    rw [this, pup_row (by decide)]
  have q10 : pup (pup H 595 (H 590 10) x) 590 10 (H 590 10 + 1) 590 10 = H 590 10 + 1 := if_pos ⟨rfl, rfl⟩
  have ep : PCH (pup (pup H 595 (H 590 10) x) 590 10 (H 590 10 + 1)) = PCH H := by
    unfold PCH
    rw [pup_row (by decide), pup_row (by decide), pup_row (by decide), pup_row (by decide), q 14 (by omega)]
  have hn := LN_push (x := x) h3 (Or.inl ⟨hx, by omega⟩)
  rw [if_pos hx] at hn
  unfold LSt
  rw [ep, q 14 (by omega), q 11 (by omega), q10, pup_row (by decide), pup_row (by decide), pup_row (by decide), pup_row (by decide)]
  refine ⟨h1, h2, ?_, by omega, h5, h6⟩
  rw [show PCH H + 1 = PCH H + 0 + 1 by omega]
  exact hn
theorem PC_last {s p : Int → Int} {o : Int} (h : 0 ≤ o) : PC s p (o.toNat + 1) = PC s p o.toNat + sg1 (s o) + sg1 (p o) := by
  show PC s p o.toNat + sg1 (s (o.toNat : Int)) + sg1 (p (o.toNat : Int)) = _
  rw [show ((o.toNat : Nat) : Int) = o by omega]
theorem PC_up {s p : Int → Int} {o v : Int} (h : 0 ≤ o) : PC s (upf p o v) (o.toNat + 1) = PC s p (o.toNat + 1) - sg1 (p o) + sg1 v ∧ PC (upf s o v) p (o.toNat + 1) = PC s p (o.toNat + 1) - sg1 (s o) + sg1 v := by
  have a : ∀ f : Int → Int, ∀ j : Int, 0 ≤ j → j < (o.toNat : Nat) → upf f o v j = f j := fun f j j0 j1 => upf_ne (by omega)
  rw [PC_last h, PC_last h, PC_last h, upf_eq, upf_eq, PC_congr (s := s) (p := p) o.toNat (fun j j0 j1 => ⟨rfl, a p j j0 j1⟩), PC_congr (s := s) (p := p) (s' := upf s o v) o.toNat (fun j j0 j1 => ⟨a s j j0 j1, rfl⟩)]
  omega
theorem up596 {H : PH} {i x : Int} : (pup H 596 i x) 596 = upf (H 596) i x := funext fun j => by
  unfold pup upf
  by_cases e : j = i
  · rw [if_pos ⟨rfl, e⟩, if_pos e]
  · rw [if_neg (fun q => e q.2), if_neg e]
theorem up597 {H : PH} {i x : Int} : (pup H 597 i x) 597 = upf (H 597) i x := funext fun j => by
  unfold pup upf
  by_cases e : j = i
  · rw [if_pos ⟨rfl, e⟩, if_pos e]
  · rw [if_neg (fun q => e q.2), if_neg e]
theorem PCH_597 {H : PH} {v : Int} (h : 0 ≤ H 590 14) : PCH (pup H 597 (H 590 14) v) = PCH H - sg1 (H 597 (H 590 14)) + sg1 v := by
  have e : pup H 597 (H 590 14) v 590 14 = H 590 14 := by rw [pup_row (by decide)]
  unfold PCH
  rw [up597, e, pup_row (by decide)]
  exact (PC_up h).1
theorem PCH_596 {H : PH} {v : Int} (h : 0 ≤ H 590 14) : PCH (pup H 596 (H 590 14) v) = PCH H - sg1 (H 596 (H 590 14)) + sg1 v := by
  have e : pup H 596 (H 590 14) v 590 14 = H 590 14 := by rw [pup_row (by decide)]
  unfold PCH
  rw [up596, e, pup_row (c' := 597) (by decide)]
  exact (PC_up h).2
/-- a sign of a row of pending ones is set -/
theorem LSt_597 {H : PH} {e e' w v : Int} (h : LSt H e w) (v0 : 0 ≤ v) (v1 : v ≤ 255) (he : e' = e + sg1 (H 597 (H 590 14)) - sg1 v) : LSt (pup H 597 (H 590 14) v) e' w := by
  obtain ⟨h1, h2, h3, h4, h5, h6⟩ := h
  have hp := PCH_597 (H := H) (v := v) h1.1
  have ee : PCH (pup H 597 (H 590 14) v) + e' = PCH H + e := by omega
  have q : ∀ j : Int, pup H 597 (H 590 14) v 590 j = H 590 j := fun j => by rw [pup_row (by decide)]
  unfold LSt
  rw [ee, q, q, q, pup_row (c' := 596) (by decide), up597]
  refine ⟨h1, fun j j0 j1 => ?_, LN_congr h3 (pup_row (by decide)) (q 10), h4, h5, h6⟩
  have := h2 j j0 j1
  by_cases c : j = H 590 14
  · rw [c, upf_eq]
    rw [c] at this
    omega
  · rw [upf_ne c]
    exact this
theorem LSt_596 {H : PH} {e e' w v : Int} (h : LSt H e w) (v0 : 0 ≤ v) (v1 : v ≤ 255) (he : e' = e + sg1 (H 596 (H 590 14)) - sg1 v) : LSt (pup H 596 (H 590 14) v) e' w := by
  obtain ⟨h1, h2, h3, h4, h5, h6⟩ := h
  have hp := PCH_596 (H := H) (v := v) h1.1
  have ee : PCH (pup H 596 (H 590 14) v) + e' = PCH H + e := by omega
  have q : ∀ j : Int, pup H 596 (H 590 14) v 590 j = H 590 j := fun j => by rw [pup_row (by decide)]
  unfold LSt
  rw [ee, q, q, q, pup_row (c' := 597) (by decide), up596]
  refine ⟨h1, fun j j0 j1 => ?_, LN_congr h3 (pup_row (by decide)) (q 10), h4, h5, h6⟩
  have := h2 j j0 j1
  by_cases c : j = H 590 14
  · rw [c, upf_eq]
    rw [c] at this
    omega
  · rw [upf_ne c]
    exact this
/-- an operation, before its sign is taken away -/
theorem LSt_op {H : PH} {x w : Int} (h : LSt H 1 w) (hx : ¬ x < 11000) (h1' : 1 ≤ PCH H) : LSt (pup (pup H 595 (H 590 10) x) 590 10 (H 590 10 + 1)) 0 w := by
  obtain ⟨h1, h2, h3, h4, h5, h6⟩ := h
  have q : ∀ j : Int, j ≠ 10 → pup (pup H 595 (H 590 10) x) 590 10 (H 590 10 + 1) 590 j = H 590 j := fun j hj => by
    have : pup (pup H 595 (H 590 10) x) 590 10 (H 590 10 + 1) 590 j = pup H 595 (H 590 10) x 590 j := if_neg (fun z => hj z.2)
    rw [this, pup_row (by decide)]
  have q10 : pup (pup H 595 (H 590 10) x) 590 10 (H 590 10 + 1) 590 10 = H 590 10 + 1 := if_pos ⟨rfl, rfl⟩
  have ep : PCH (pup (pup H 595 (H 590 10) x) 590 10 (H 590 10 + 1)) = PCH H := by
    unfold PCH
    rw [pup_row (by decide), pup_row (by decide), pup_row (by decide), pup_row (by decide), q 14 (by omega)]
  have hn := LN_push (x := x) h3 (Or.inr ⟨hx, by omega⟩)
  rw [if_neg hx] at hn
  unfold LSt
  rw [ep, q 14 (by omega), q 11 (by omega), q10, pup_row (by decide), pup_row (by decide), pup_row (by decide), pup_row (by decide)]
  refine ⟨h1, h2, ?_, by omega, h5, h6⟩
  rw [show PCH H + 0 = PCH H + 1 - 1 by omega]
  exact hn
theorem PCH_1 {H : PH} {e w : Int} (h : LSt H e w) (hp : H 597 (H 590 14) ≠ 0 ∨ H 596 (H 590 14) ≠ 0) : 1 ≤ PCH H := by
  have h0 := h.1.1
  unfold PCH
  rw [PC_last h0]
  have := PC_b (H 596) (H 597) (H 590 14).toNat
  have := sg1_b (H 596 (H 590 14))
  have := sg1_b (H 597 (H 590 14))
  rcases hp with hp | hp
  · have := sg1_1 hp
    omega
  · have := sg1_1 hp
    omega
theorem LSt_open {H : PH} {w : Int} (h : LSt H 0 w) (ho : H 590 14 ≤ 7) : LSt (pup (pup (pup H 590 14 (H 590 14 + 1)) 596 (H 590 14 + 1) 0) 597 (H 590 14 + 1) 0) 0 w := by
  obtain ⟨h1, h2, h3, h4, h5, h6⟩ := h
  have q : ∀ j : Int, pup (pup (pup H 590 14 (H 590 14 + 1)) 596 (H 590 14 + 1) 0) 597 (H 590 14 + 1) 0 590 j = pup H 590 14 (H 590 14 + 1) 590 j := fun j => by rw [pup_row (by decide), pup_row (by decide)]
  have q14 : pup H 590 14 (H 590 14 + 1) 590 14 = H 590 14 + 1 := if_pos ⟨rfl, rfl⟩
  have qn : ∀ j : Int, j ≠ 14 → pup H 590 14 (H 590 14 + 1) 590 j = H 590 j := fun j hj => if_neg (fun z => hj z.2)
  have e6 : pup (pup (pup H 590 14 (H 590 14 + 1)) 596 (H 590 14 + 1) 0) 597 (H 590 14 + 1) 0 596 = upf (H 596) (H 590 14 + 1) 0 := by rw [pup_row (by decide), up596, pup_row (by decide)]
  have e7 : pup (pup (pup H 590 14 (H 590 14 + 1)) 596 (H 590 14 + 1) 0) 597 (H 590 14 + 1) 0 597 = upf (H 597) (H 590 14 + 1) 0 := by rw [up597, pup_row (by decide), pup_row (by decide)]
  have ep : PCH (pup (pup (pup H 590 14 (H 590 14 + 1)) 596 (H 590 14 + 1) 0) 597 (H 590 14 + 1) 0) = PCH H := by
    unfold PCH
    rw [e6, e7, q, q14, PC_last (by omega), upf_eq, upf_eq, sg1_0, show (H 590 14 + 1).toNat = (H 590 14).toNat + 1 by omega, PC_congr (s := H 596) (p := H 597) _ (fun j a b => ⟨upf_ne (by omega), upf_ne (by omega)⟩)]
    omega
  unfold LSt
  rw [ep, e6, e7, q, q, q, q14, qn 10 (by omega), qn 11 (by omega)]
  refine ⟨by omega, fun j j0 j1 => ?_, LN_congr h3 (by rw [pup_row (by decide), pup_row (by decide), pup_row (by decide)]) ((q 10).trans (qn 10 (by omega))), h4, h5, h6⟩
  by_cases c : j = H 590 14 + 1
  · rw [c, upf_eq, upf_eq]
    omega
  · rw [upf_ne c, upf_ne c]
    exact h2 j j0 (by omega)
theorem LSt_close {H : PH} {w : Int} (h : LSt H 1 w) (ho : 1 ≤ H 590 14) (hs : H 596 (H 590 14) = 0) (hp : H 597 (H 590 14) = 0) : LSt (pup H 590 14 (H 590 14 - 1)) 1 w := by
  obtain ⟨h1, h2, h3, h4, h5, h6⟩ := h
  have q14 : pup H 590 14 (H 590 14 - 1) 590 14 = H 590 14 - 1 := if_pos ⟨rfl, rfl⟩
  have qn : ∀ j : Int, j ≠ 14 → pup H 590 14 (H 590 14 - 1) 590 j = H 590 j := fun j hj => if_neg (fun z => hj z.2)
  have ep : PCH (pup H 590 14 (H 590 14 - 1)) = PCH H := by
    unfold PCH
    rw [q14, pup_row (by decide), pup_row (by decide), PC_last h1.1, hs, hp, sg1_0, show (H 590 14 - 1).toNat + 1 = (H 590 14).toNat by omega]
    omega
  unfold LSt
  rw [ep, q14, qn 10 (by omega), qn 11 (by omega), pup_row (by decide), pup_row (by decide)]
  exact ⟨by omega, fun j a b => h2 j a (by omega), LN_congr h3 (pup_row (by decide)) (qn 10 (by omega)), h4, h5, h6⟩
theorem hr_up {H : PH} {c i v : Int} (hc : c ≠ 590) (hc2 : c ≠ 593) : hr (pup H c i v) = hr H := by
  unfold hr
  rw [pup_row (c' := 590) (fun q => hc q.symm), pup_row (c' := 593) (fun q => hc2 q.symm)]

