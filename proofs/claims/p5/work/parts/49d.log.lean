/-! ===== the class's log: each deed fits the state that it is taken back from ===== -/
abbrev LE : Type := Int × Int × Int × Int
def dec1 (R : Int → Int) (a : Int) : Int → Int := fun x => if x = a then R x - 1 else R x
def LOK : Int → (Int → Int) → List LE → Prop
  | _, _, [] => True
  | N, R, e :: t => if e.1 = 0 then (0 ≤ e.2.1 ∧ e.2.1 ≤ N ∧ e.2.1 ≤ 12 ∧ 0 ≤ e.2.2.1 ∧ e.2.2.1 ≤ 60 ∧ 0 ≤ e.2.2.2 ∧ e.2.2.2 ≤ 8) ∧ LOK e.2.1 R t else if e.1 = 2 then (0 ≤ e.2.1 ∧ e.2.1 < N ∧ e.2.1 ≤ 11 ∧ 1 ≤ R e.2.1) ∧ LOK N (dec1 R e.2.1) t else ((e.1 = 5 → 0 ≤ e.2.1 ∧ e.2.1 ≤ 24) ∧ ((e.1 = 3 ∨ ¬ (0 ≤ e.1 ∧ e.1 ≤ 9)) → 0 ≤ e.2.1 ∧ e.2.1 ≤ 11) ∧ (e.1 = 7 → 0 ≤ e.2.1 ∧ e.2.1 ≤ 59)) ∧ LOK N R t
theorem LOK_congr : ∀ {l : List LE} {N : Int} {R R' : Int → Int}, (∀ x, 0 ≤ x → x < N → R' x = R x) → LOK N R l → LOK N R' l
  | [], _, _, _, _, _ => trivial
  | e :: t, N, R, R', h, hl => by
    unfold LOK at hl ⊢
    by_cases e0 : e.1 = 0
    · rw [if_pos e0] at hl ⊢
      exact ⟨hl.1, LOK_congr (fun x h0 h1 => h x h0 (by omega)) hl.2⟩
    · rw [if_neg e0] at hl ⊢
      by_cases e2 : e.1 = 2
      · rw [if_pos e2] at hl ⊢
        obtain ⟨⟨a, b, c, d⟩, hl⟩ := hl
        have ee := h e.2.1 a b
        refine ⟨⟨a, b, c, by omega⟩, LOK_congr (fun x h0 h1 => ?_) hl⟩
        unfold dec1
        rw [h x h0 h1]
      · rw [if_neg e2] at hl ⊢
        exact ⟨hl.1, LOK_congr h hl.2⟩
theorem LOK_take : ∀ {l : List LE} {N : Int} {R : Int → Int} (n : Nat), LOK N R l → LOK N R (l.take n)
  | [], _, _, n, _ => by
    rw [List.take_nil]
    trivial
  | e :: t, N, R, 0, _ => trivial
  | e :: t, N, R, n + 1, hl => by
    rw [List.take_succ_cons]
    unfold LOK at hl ⊢
    by_cases e0 : e.1 = 0
    · rw [if_pos e0] at hl ⊢
      exact ⟨hl.1, LOK_take n hl.2⟩
    · rw [if_neg e0] at hl ⊢
      by_cases e2 : e.1 = 2
      · rw [if_pos e2] at hl ⊢
        exact ⟨hl.1, LOK_take n hl.2⟩
      · rw [if_neg e2] at hl ⊢
        exact ⟨hl.1, LOK_take n hl.2⟩
/-! the log as the heap has it: twenty deeds in a ring, the latest first -/
def ent (H : PH) (j : Int) : LE := (H (469 + 6 * j) 0, H (469 + 6 * j) 1, H (469 + 6 * j) 2, H (469 + 6 * j) 3)
def ringAt (latest : Int) (i : Nat) : Int := (latest + 20 - i) % 20
def lgf (f : Int → LE) (latest : Int) (m : Nat) : List LE := (List.range m).map (fun i => f (ringAt latest i))
theorem lgf_push {f f' : Int → LE} {latest latest' : Int} {m m' : Nat} {e : LE} (h0 : 0 ≤ latest) (h1 : latest ≤ 19) (hl : latest' = if latest = 19 then 0 else latest + 1) (hm : m ≤ 20) (hm' : m' = min 20 (m + 1)) (he : f' latest' = e) (hf : ∀ j, 0 ≤ j → j ≤ 19 → j ≠ latest' → f' j = f j) : lgf f' latest' m' = e :: (lgf f latest m).take 19 := by
  have hml : m' = (min 19 m) + 1 := by omega
  have hlt : 0 ≤ latest' ∧ latest' ≤ 19 := by
    rw [hl]
    split <;> omega
  unfold lgf
  rw [hml, List.range_succ_eq_map, List.map_cons, List.map_map, ← List.map_take, List.take_range]
  congr 1
  · have : ringAt latest' 0 = latest' := by
      unfold ringAt
      omega
    rw [this, he]
  · apply List.map_congr_left
    intro i hi
    have hi := List.mem_range.mp hi
    show f' (ringAt latest' (i + 1)) = f (ringAt latest i)
    have e1 : ringAt latest' (i + 1) = ringAt latest i := by
      unfold ringAt
      rw [hl]
      split <;> omega
    rw [e1]
    refine hf _ ?_ ?_ ?_
    · unfold ringAt; omega
    · unfold ringAt; omega
    · unfold ringAt
      rw [hl]
      split <;> omega
theorem lgf_pop {f : Int → LE} {latest latest' : Int} {m : Nat} (h0 : 0 ≤ latest) (h1 : latest ≤ 19) (hl : latest' = if latest = 0 then 19 else latest - 1) : lgf f latest (m + 1) = f latest :: lgf f latest' m := by
  unfold lgf
  rw [List.range_succ_eq_map, List.map_cons, List.map_map]
  congr 1
  · have : ringAt latest 0 = latest := by
      unfold ringAt
      omega
    rw [this]
  · apply List.map_congr_left
    intro i _
    show f (ringAt latest (i + 1)) = f (ringAt latest' i)
    congr 1
    unfold ringAt
    rw [hl]
    split <;> omega
theorem lgf_congr {f f' : Int → LE} {latest : Int} {m : Nat} (h : ∀ j, 0 ≤ j → j ≤ 19 → f' j = f j) : lgf f' latest m = lgf f latest m := by
  unfold lgf
  apply List.map_congr_left
  intro i _
  exact h _ (by unfold ringAt; omega) (by unfold ringAt; omega)
/-- what holds of the class between calls, beside its types -/
def LOGH (H : PH) : Prop := LOK (H 1 2) (fun x => H (57 + 3 * x) 5) (lgf (ent H) (H 0 8) (H 0 7).toNat)
