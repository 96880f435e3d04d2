noncomputable def amchkA (rt0 : Option aV) (T A : List aL) (B : List aB) (cs : List (Nat × aC)) (c : aC) : Bool := T.all (fun l => l.2.1.2.1.all (fun e => Nat.beq e.2.2.1.1 0) && (match mlow l.2.1.1 l.2.2.2 with
  | some d => decide (0 ≤ l.2.2.1 + d)
  | none => false) && bfd B l.1 (fun b => cB (csf cs) (jmp (T ++ A) l) rt0 c.2.2.2.2.2.1 (c.2.1 - 1) c.2.2.2.2.2.2.1 c.2.2.2.2.2.2.2.2.2 b.2.2 b.2.1 l.1 (begin_ l.2.1))) && T.any (fun q => Nat.beq q.1 0 && sle (args0 0 c.2.2.1, [], c.2.2.2.2.2.2.2.1) q.2.1) && Nat.ble 1 c.2.1 && Nat.ble c.2.2.2.2.2.1 1 && c.2.2.2.2.1.isEmpty && isF2 c.2.2.2.2.2.2.2.1
theorem am_okA {rt0 : Option aV} {T A : List aL} {B : List aB} {cs : List (Nat × aC)} {c : aC} {oc : Nat} {ini : Bool} {cc : ByteArray} {maxL : Nat} {rt : Option FieldType} {cd : zK} (hm : zget zM c.1 = some ((c.1, oc, ini, cc, maxL, rt), cd)) (hB : blOK cd B) (hml : ∀ as, aargs c.2.2.1 as → pcat as ≤ maxL) (hc : amchkA rt0 T A B cs c = true) (hcs : csOK cs) (hrt : ∀ r, rok rt0 r → rok c.2.2.2.1 r) (hR : ∀ (r : Option pv) (H2 : PH), rok rt0 r → ∀ x, r = some (0, x) → ∀ f ∈ c.2.2.2.2.2.2.2.2.1, f.1 ≤ x → x ≤ f.2.1 → False) (hA : ∀ (G : zG) (us : Nat) (g : Nat → Nat → Int) (H : PH) (as : List pv), GOK g → WT c.2.2.2.2.2.1 g H → aargs c.2.2.1 as → ∀ l ∈ A, ∀ (ls1 ls : PL) (st : List pv) (H' : PH), sok c.2.2.2.2.2.1 c.2.2.2.2.2.2.1 g H ls1 l.2.1 ls st H' → Tr G us cd c.2.1 (zget cd l.1) l.1 ls st H' (fun r H2 => WT c.2.2.2.2.2.1 g H2 ∧ rok c.2.2.2.1 r ∧ (∀ x, r = some (0, x) → ∀ f ∈ c.2.2.2.2.1, f.1 ≤ x → x ≤ f.2.1 → ∀ y, as[f.2.2.1]? = some (0, y) → f.2.2.2.1 ≤ y ∧ y ≤ f.2.2.2.2) ∧ frm c.2.2.2.2.2.2.1 H H2 ∧ (∀ x, r = some (0, x) → ∀ f ∈ c.2.2.2.2.2.2.2.2.1, f.1 ≤ x → x ≤ f.2.1 → fok [] H2 f.2.2) ∧ ∀ f ∈ c.2.2.2.2.2.2.2.2.2, fok [] H2 f)) : CtOK c := by
  intro G us g H as hg hW ha hp
  unfold amchkA at hc
  simp only [Bool.and_eq_true] at hc
  obtain ⟨⟨⟨⟨⟨c1, c2⟩, c3⟩, c4⟩, c5⟩, c6⟩ := hc
  have c3 := Nat.le_of_ble_eq_true c3
  have c4 := Nat.le_of_ble_eq_true c4
  have hD : c.2.1 - 1 + 1 = c.2.1 := by omega
  refine ⟨oc, ini, cc, maxL, rt, cd, hm, hml as ha, ?_⟩
  have key : ∀ (n : Nat) (l : aL) (ls : PL) (st : List pv) (H' : PH), l ∈ T → (l.2.2.1 + mval ls l.2.2.2).toNat < n → (∃ ls1, sok c.2.2.2.2.2.1 c.2.2.2.2.2.2.1 g H ls1 l.2.1 ls st H') → Tr G us cd (c.2.1 - 1 + 1) (zget cd l.1) l.1 ls st H' (fun r H2 => WT c.2.2.2.2.2.1 g H2 ∧ rok c.2.2.2.1 r ∧ (∀ x, r = some (0, x) → ∀ f ∈ c.2.2.2.2.1, f.1 ≤ x → x ≤ f.2.1 → ∀ y, as[f.2.2.1]? = some (0, y) → f.2.2.2.1 ≤ y ∧ y ≤ f.2.2.2.2) ∧ frm c.2.2.2.2.2.2.1 H H2 ∧ (∀ x, r = some (0, x) → ∀ f ∈ c.2.2.2.2.2.2.2.2.1, f.1 ≤ x → x ≤ f.2.1 → fok [] H2 f.2.2) ∧ ∀ f ∈ c.2.2.2.2.2.2.2.2.2, fok [] H2 f) := by
    intro n
    induction n with
    | zero => intros; omega
    | succ n ih =>
      intro l ls st H' hl hn hs
      obtain ⟨ls1, hs⟩ := hs
      have h1 := List.all_eq_true.mp c1 l hl
      simp only [Bool.and_eq_true] at h1
      obtain ⟨⟨d1, d2⟩, d3⟩ := h1
      obtain ⟨b, b1, b2, b3⟩ := bfd_ok hB d3
      rw [b1] at b2
      have hlow : 0 ≤ l.2.2.1 + mval ls l.2.2.2 := by
        split at d2
        · rename_i d hd
          have := mlow_ok hs.1.1 hd
          have := decide_eq_true_iff.mp d2
          omega
        · cases d2
      refine tr_lab b.2.1 b.2.2 b2 ?_
      refine cB_ok (H0 := H) (ls0 := ls) (csf_ok hcs) c4 hg ?_ ?_ b.2.1 l.1 _ ls st H' b3 ⟨begin_ok hs.1 d1, hs.2⟩
      · intro t S ls' st' H2 hj hs'
        obtain ⟨q, q1, q2, q3⟩ := any_ok hj
        rw [Bool.and_eq_true] at q3
        rw [← q2]
        have hg' : gam ls' q.2.1 ls' st' H2 := sle_ok q3.1 hs'.1
        rcases List.mem_append.mp q1 with q1 | q1
        rotate_left
        · rw [hD]
          exact hA G us g H as hg hW ha q q1 ls' ls' st' H2 ⟨hg', hs'.2⟩
        refine ih q ls' st' H2 q1 ?_ ⟨ls', hg', hs'.2⟩
        have h2 := q3.2
        split at h2
        · rename_i d hd
          have e1 := mdif_ok hs'.1.1 hs.1.1 hd
          have e2 := decide_eq_true_iff.mp h2
          have h3 := List.all_eq_true.mp c1 q q1
          simp only [Bool.and_eq_true] at h3
          have h4 := h3.1.2
          split at h4
          · rename_i d' hd'
            have e3 := mlow_ok hg'.1 hd'
            have e4 := decide_eq_true_iff.mp h4
            omega
          · cases h4
        · cases h2
      · intro r H2 r1 r2 r3 r4
        refine ⟨r2, hrt r r1, ?_, r3, ?_, r4⟩
        · intro x _ f hf
          rw [List.isEmpty_iff.mp c5] at hf
          cases hf
        · intro x hx f hf z1 z2
          exact (hR r H2 r1 x hx f hf z1 z2).elim
  obtain ⟨q, q1, q2, q3⟩ := any_ok c2
  have h0 := (args0_ok (H := H) (ls0 := []) 0 (parg 0 as) ha (fun j p h => h)).2
  have hov : ∀ f ∈ c.2.2.2.2.2.2.2.1, fok (parg 0 as) H f := by
    intro f hf x hx
    have h2 := Nat.eq_of_beq_eq_true (List.all_eq_true.mp c6 f hf)
    refine hp f hf x ?_
    obtain ⟨⟨k1, k2, k3⟩, k4⟩ := f
    have h2 : k1 = 2 := h2
    subst h2
    exact hx
  have := key _ q (parg 0 as) [] H q1 (Nat.lt_succ_self _) ⟨[], sle_ok (ls0 := []) (S := (args0 0 c.2.2.1, [], c.2.2.2.2.2.2.2.1)) q3 ⟨h0, trivial, hov⟩, hW, frm_refl _ _⟩
  rw [q2, hD] at this
  exact this
