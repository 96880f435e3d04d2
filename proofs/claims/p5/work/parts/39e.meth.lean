/-! ===== a method, by what is known at its places ===== -/
abbrev aL : Type := Nat × aS × Int × List (Nat × Int)
def atL (al : List (Nat × aE)) (v : Nat) : aE := match al with
  | [] => ePl vtop
  | q :: t => bif Nat.beq q.1 v then q.2 else atL t v
def hasL (al : List (Nat × aE)) (v : Nat) : Bool := match al with
  | [] => false
  | q :: t => Nat.beq q.1 v || hasL t v
theorem atL_mem {v : Nat} : ∀ {al : List (Nat × aE)}, hasL al v = true → (v, atL al v) ∈ al
  | [], h => by cases h
  | q :: t, h => by
    unfold hasL at h
    unfold atL
    cases hb : Nat.beq q.1 v with
    | true =>
      have e : q.1 = v := Nat.eq_of_beq_eq_true hb
      show (v, q.2) ∈ q :: t
      rw [← e]
      exact List.mem_cons_self
    | false =>
      rw [hb] at h
      exact List.mem_cons_of_mem _ (atL_mem h)
def kcov (f g : aK) : Bool := decide (g.1 ≤ f.1) && decide (f.2.1 ≤ g.2.1) && fcov f.2.2 g.2.2
def ele (ov : List aF) (e e' : aE) : Bool := vsub' e.1 e'.1 && (Nat.beq e'.2.1.1 0 || geq e.2.1 e'.2.1) && Nat.beq e'.2.2.1.1 0 && e'.2.2.2.all (fun f => e.2.2.2.any (kcov f) || fcov2 ov f.2.2 || (Nat.beq e.1.1 0 && (decide (e.1.2.2.1 < f.1) || decide (f.2.1 < e.1.2.1))))
def elel (ov : List aF) : List aE → List aE → Bool
  | [], [] => true
  | a :: s, b :: t => ele ov a b && elel ov s t
  | _, _ => false
def sle (S S' : aS) : Bool := S'.1.all (fun q => hasL S.1 q.1 && ele S.2.2 (atL S.1 q.1) q.2) && elel S.2.2 S.2.1 S'.2.1 && S'.2.2.all (fcov2 S.2.2)
section SLE
variable {ls0 ls : PL} {st : List pv} {H : PH}
theorem fcov_ok {f f' : aF} (h : fcov f f' = true) (hf : fok ls H f') : fok ls H f := by
  unfold fcov at h
  rw [Bool.and_eq_true, Bool.and_eq_true, decide_eq_true_iff, decide_eq_true_iff] at h
  have h5 := geq_ok h.1.1
  intro x hx
  rw [h5] at hx
  have := hf x hx
  omega
theorem ele_ok {ls1 : PL} {e e' : aE} {p : pv} {ov : List aF} (hov : ∀ f ∈ ov, fok ls H f) (h : ele ov e e' = true) (he : eok ls0 ls H e p) : eok ls1 ls H e' p := by
  unfold ele at h
  simp only [Bool.and_eq_true] at h
  obtain ⟨⟨⟨h1, h2⟩, h3⟩, h4⟩ := h
  have h3 : e'.2.2.1.1 = 0 := Nat.eq_of_beq_eq_true h3
  refine ⟨vsub'_ok h1 he.1, ?_, ?_, ?_⟩
  · intro q
    rw [Bool.or_eq_true] at h2
    rcases h2 with h2 | h2
    · exact (q (Nat.eq_of_beq_eq_true h2)).elim
    · have := geq_ok h2
      rw [← this] at q ⊢
      exact he.2.1 q
  · intro v q
    omega
  · intro q0 f hf z1 z2
    have := List.all_eq_true.mp h4 f hf
    rw [Bool.or_eq_true, Bool.or_eq_true, List.any_eq_true, Bool.and_eq_true, Bool.or_eq_true, decide_eq_true_iff, decide_eq_true_iff] at this
    rcases this with (⟨f', g1, g2⟩ | g2) | ⟨g1, g2⟩
    rotate_left
    · exact fcov2_ok g2 hov
    · have := (aval_int he.1 (Nat.eq_of_beq_eq_true g1)).2.1
      have := (aval_int he.1 (Nat.eq_of_beq_eq_true g1)).2.2.1
      omega
    unfold kcov at g2
    rw [Bool.and_eq_true, Bool.and_eq_true, decide_eq_true_iff, decide_eq_true_iff] at g2
    exact fcov_ok g2.2 (he.2.2.2 q0 f' g1 (Int.le_trans g2.1.1 z1) (Int.le_trans z2 g2.1.2))
theorem elel_ok {ls1 : PL} {ov : List aF} (hov : ∀ f ∈ ov, fok ls H f) : ∀ {s s' : List aE} {st : List pv}, elel ov s s' = true → all2 (eok ls0 ls H) s st → all2 (eok ls1 ls H) s' st
  | [], [], [], _, _ => trivial
  | a :: s, b :: t, v :: st, h, h' => by
    have h : (ele ov a b && elel ov s t) = true := h
    rw [Bool.and_eq_true] at h
    exact ⟨ele_ok hov h.1 h'.1, elel_ok hov h.2 h'.2⟩
  | [], _ :: _, _, h, _ => by cases h
  | _ :: _, [], _, h, _ => by cases h
theorem sle_ok {ls1 : PL} {S S' : aS} (h : sle S S' = true) (hs : gam ls0 S ls st H) : gam ls1 S' ls st H := by
  unfold sle at h
  rw [Bool.and_eq_true, Bool.and_eq_true] at h
  obtain ⟨⟨h1, h2⟩, h3⟩ := h
  refine ⟨?_, elel_ok hs.2.2 h2 hs.2.1, ?_⟩
  · intro q hq
    have := List.all_eq_true.mp h1 q hq
    rw [Bool.and_eq_true] at this
    obtain ⟨p, g1, g2⟩ := hs.1 _ (atL_mem this.1)
    exact ⟨p, g1, ele_ok hs.2.2 this.2 g2⟩
  · intro f hf
    exact fcov2_ok (List.all_eq_true.mp h3 f hf) hs.2.2
/-- at a place, each number is what it was there -/
def begin_ (S : aS) : aS := (S.1.map (fun q => (q.1, (q.2.1, q.2.2.1, (bif Nat.beq q.2.1.1 0 then (q.1 + 1, 0) else (0, 0)), q.2.2.2.2))), S.2.1, S.2.2)
theorem begin_ok {ls1 : PL} {S : aS} (hs : gam ls1 S ls st H) (h0 : S.2.1.all (fun e => Nat.beq e.2.2.1.1 0) = true) : gam ls (begin_ S) ls st H := by
  refine ⟨?_, ?_, hs.2.2⟩
  · intro q hq
    obtain ⟨r, hr, rfl⟩ := List.mem_map.mp hq
    obtain ⟨p, g1, g2⟩ := hs.1 r hr
    refine ⟨p, g1, g2.1, g2.2.1, ?_, g2.2.2.2⟩
    intro v hv
    have hv : (bif Nat.beq r.2.1.1 0 then ((r.1 + 1, 0) : Nat × Int) else (0, 0)).1 = v + 1 := hv
    show ∃ x, pget ls v = some (0, x) ∧ p = (0, x + (bif Nat.beq r.2.1.1 0 then ((r.1 + 1, 0) : Nat × Int) else (0, 0)).2)
    cases hb : Nat.beq r.2.1.1 0 with
    | false =>
      rw [hb] at hv
      have hv : 0 = v + 1 := hv
      omega
    | true =>
      rw [hb] at hv
      have hv : r.1 + 1 = v + 1 := hv
      have e : r.1 = v := by omega
      have ep : p.1 = 0 := g2.1.1.trans (Nat.eq_of_beq_eq_true hb)
      refine ⟨p.2, ?_, ?_⟩
      · rw [← e, ← ep]
        exact g1
      · show p = (0, p.2 + 0)
        rw [Int.add_zero, ← ep]
  · have key : ∀ {s : List aE} {t : List pv}, s.all (fun e => Nat.beq e.2.2.1.1 0) = true → all2 (eok ls1 ls H) s t → all2 (eok ls ls H) s t := by
      intro s
      induction s with
      | nil =>
        intro t _ h
        cases t with
        | nil => trivial
        | cons a b => exact h.elim
      | cons e s ih =>
        intro t h1 h
        cases t with
        | nil => exact h.elim
        | cons v t =>
          rw [List.all_cons, Bool.and_eq_true] at h1
          have h2 : e.2.2.1.1 = 0 := Nat.eq_of_beq_eq_true h1.1
          exact ⟨⟨h.1.1, h.1.2.1, fun v q => by omega, h.1.2.2.2⟩, ih h1.2 h.2⟩
    exact key h0 hs.2.1
end SLE
/-! what goes down -/
def nv (ls : PL) (v : Nat) : Int := match pget ls v with
  | some p => p.2
  | none => 0
def mval (ls : PL) : List (Nat × Int) → Int
  | [] => 0
  | q :: t => q.2 * nv ls q.1 + mval ls t
def bmax (c : Int) (a : aV) : Int := if 0 ≤ c then c * a.2.2.1 else c * a.2.1
def bmin (c : Int) (a : aV) : Int := if 0 ≤ c then c * a.2.1 else c * a.2.2.1
theorem bmax_ok {c : Int} {a : aV} {x : Int} (h : vint a x) : c * x ≤ bmax c a := by
  unfold bmax
  split
  · exact Int.mul_le_mul_of_nonneg_left h.2.1 (by assumption)
  · exact Int.mul_le_mul_of_nonpos_left (by omega) h.1
theorem bmin_ok {c : Int} {a : aV} {x : Int} (h : vint a x) : bmin c a ≤ c * x := by
  unfold bmin
  split
  · exact Int.mul_le_mul_of_nonneg_left h.1 (by assumption)
  · exact Int.mul_le_mul_of_nonpos_left (by omega) h.2.1
def isN (al : List (Nat × aE)) (v : Nat) : Bool := hasL al v && Nat.beq (atL al v).1.1 0
/-- how much more one sum is than another, at most -/
def mdif (al al0 : List (Nat × aE)) : List (Nat × Int) → List (Nat × Int) → Option Int
  | [], [] => some 0
  | q :: s, r :: t => match mdif al al0 s t with
    | none => none
    | some d => bif Nat.beq q.1 r.1 && decide (q.2 = r.2) && hasL al q.1 && Nat.beq (atL al q.1).2.2.1.1 (q.1 + 1) then some (q.2 * (atL al q.1).2.2.1.2 + d) else bif (decide (q.2 = 0) || isN al q.1) && (decide (r.2 = 0) || isN al0 r.1) then some ((if q.2 = 0 then 0 else bmax q.2 (atL al q.1).1) - (if r.2 = 0 then 0 else bmin r.2 (atL al0 r.1).1) + d) else none
  | _, _ => none
def mlow (al : List (Nat × aE)) : List (Nat × Int) → Option Int
  | [] => some 0
  | q :: s => match mlow al s with
    | none => none
    | some d => bif decide (q.2 = 0) then some d else bif isN al q.1 then some (bmin q.2 (atL al q.1).1 + d) else none
section MD
variable {ls0 ls0' ls ls' : PL} {H H' : PH} {al al0 : List (Nat × aE)}
theorem isN_ok {v : Nat} (h : isN al v = true) (hl : lok ls0 ls H al) : vint (atL al v).1 (nv ls v) := by
  unfold isN at h
  rw [Bool.and_eq_true] at h
  obtain ⟨p, g1, g2⟩ := hl _ (atL_mem h.1)
  have e : nv ls v = p.2 := by
    unfold nv
    rw [show pget ls v = some p from g1]
  rw [e]
  exact (aval_int g2.1 (Nat.eq_of_beq_eq_true h.2)).2
theorem mlow_ok (hl : lok ls0 ls H al) : ∀ {cs : List (Nat × Int)} {d : Int}, mlow al cs = some d → d ≤ mval ls cs
  | [], d, h => by
    cases h
    exact Int.le_refl _
  | q :: s, d, h => by
    unfold mlow at h
    split at h
    · cases h
    · rename_i d' hd
      have ih := mlow_ok hl hd
      show d ≤ q.2 * nv ls q.1 + mval ls s
      cases h1 : decide (q.2 = 0) with
      | true =>
        rw [h1] at h
        cases h
        rw [decide_eq_true_iff.mp h1, Int.zero_mul]
        omega
      | false =>
        rw [h1] at h
        cases h2 : isN al q.1 with
        | false => rw [h2] at h; cases h
        | true =>
          rw [h2] at h
          cases h
          have := bmin_ok (c := q.2) (isN_ok h2 hl)
          omega
theorem mdif_ok (hl : lok ls0 ls H al) (hl0 : lok ls0' ls0 H' al0) : ∀ {cs cs0 : List (Nat × Int)} {d : Int}, mdif al al0 cs cs0 = some d → mval ls cs - mval ls0 cs0 ≤ d
  | [], [], d, h => by
    cases h
    exact Int.le_refl _
  | [], _ :: _, d, h => by cases h
  | _ :: _, [], d, h => by cases h
  | q :: s, r :: t, d, h => by
    unfold mdif at h
    split at h
    · cases h
    · rename_i d' hd
      have ih := mdif_ok hl hl0 hd
      show q.2 * nv ls q.1 + mval ls s - (r.2 * nv ls0 r.1 + mval ls0 t) ≤ d
      cases h1 : (Nat.beq q.1 r.1 && decide (q.2 = r.2) && hasL al q.1 && Nat.beq (atL al q.1).2.2.1.1 (q.1 + 1)) with
      | true =>
        rw [h1] at h
        cases h
        simp only [Bool.and_eq_true, decide_eq_true_iff] at h1
        obtain ⟨⟨⟨a1, a2⟩, a3⟩, a4⟩ := h1
        have a1 : q.1 = r.1 := Nat.eq_of_beq_eq_true a1
        obtain ⟨p, g1, g2⟩ := hl _ (atL_mem a3)
        obtain ⟨x, b1, b2⟩ := g2.2.2.1 q.1 (Nat.eq_of_beq_eq_true a4)
        have e1 : nv ls q.1 = x + (atL al q.1).2.2.1.2 := by
          unfold nv
          rw [show pget ls q.1 = some p from g1, b2]
        have e2 : nv ls0 r.1 = x := by
          unfold nv
          rw [← a1, b1]
        rw [e1, e2, ← a2, Int.mul_add]
        omega
      | false =>
        rw [h1] at h
        cases h2 : ((decide (q.2 = 0) || isN al q.1) && (decide (r.2 = 0) || isN al0 r.1)) with
        | false => rw [h2] at h; cases h
        | true =>
          rw [h2] at h
          have h : some ((if q.2 = 0 then 0 else bmax q.2 (atL al q.1).1) - (if r.2 = 0 then 0 else bmin r.2 (atL al0 r.1).1) + d') = some d := h
          cases h
          rw [Bool.and_eq_true, Bool.or_eq_true, Bool.or_eq_true, decide_eq_true_iff, decide_eq_true_iff] at h2
          have k1 : q.2 * nv ls q.1 ≤ if q.2 = 0 then 0 else bmax q.2 (atL al q.1).1 := by
            by_cases e : q.2 = 0
            · rw [if_pos e, e, Int.zero_mul]
              exact Int.le_refl _
            · rw [if_neg e]
              exact bmax_ok (isN_ok (h2.1.resolve_left e) hl)
          have k2 : (if r.2 = 0 then 0 else bmin r.2 (atL al0 r.1).1) ≤ r.2 * nv ls0 r.1 := by
            by_cases e : r.2 = 0
            · rw [if_pos e, e, Int.zero_mul]
              exact Int.le_refl _
            · rw [if_neg e]
              exact bmin_ok (isN_ok (h2.2.resolve_left e) hl0)
          omega
end MD
theorem any_ok {k : aL → Bool} {i : Nat} {T : List aL} (h : T.any (fun q => Nat.beq q.1 i && k q) = true) : ∃ q ∈ T, q.1 = i ∧ k q = true := by
  rw [List.any_eq_true] at h
  obtain ⟨q, h1, h2⟩ := h
  rw [Bool.and_eq_true] at h2
  exact ⟨q, h1, Nat.eq_of_beq_eq_true h2.1, h2.2⟩
/-- a jump from a place to another -/
def jmp (T : List aL) (l : aL) (t : Nat) (S : aS) : Bool := T.any (fun q => Nat.beq q.1 t && (sle S q.2.1 && (match mdif S.1 l.2.1.1 q.2.2.2 l.2.2.2 with
  | some d => decide (q.2.2.1 - l.2.2.1 + d < 0)
  | none => false)))
def csf (cs : List (Nat × aC)) (p : Nat) : List aC := (cs.filter (fun q => Nat.beq q.1 p)).map (fun q => q.2)
def csOK : List (Nat × aC) → Prop
  | [] => True
  | q :: t => CtOK q.2 ∧ csOK t
theorem csOK_app : ∀ {a b : List (Nat × aC)}, csOK a → csOK b → csOK (a ++ b)
  | [], _, _, h => h
  | _ :: _, _, h, h' => ⟨h.1, csOK_app h.2 h'⟩
theorem csOK_mem : ∀ {cs : List (Nat × aC)}, csOK cs → ∀ q ∈ cs, CtOK q.2
  | [], _, q, hq => by cases hq
  | a :: t, h, q, hq => by
    rcases List.mem_cons.mp hq with rfl | e
    · exact h.1
    · exact csOK_mem h.2 q e
theorem csf_ok {cs : List (Nat × aC)} (h : csOK cs) (p : Nat) : ∀ c ∈ csf cs p, CtOK c := by
  intro c hc
  obtain ⟨q, hq, rfl⟩ := List.mem_map.mp hc
  exact csOK_mem h q (List.mem_filter.mp hq).1
abbrev aB : Type := Nat × List VE × Option Nat
def blOK (cd : zK) : List aB → Prop
  | [] => True
  | b :: t => zget cd b.1 = b.2.1.map vq ++ vrest cd b.2.2 ∧ blOK cd t
def bfd : List aB → Nat → (aB → Bool) → Bool
  | [], _, _ => false
  | q :: t, i, k => bif Nat.beq q.1 i then k q else bfd t i k
theorem bfd_ok {cd : zK} {i : Nat} {k : aB → Bool} : ∀ {B : List aB}, blOK cd B → bfd B i k = true → ∃ b : aB, b.1 = i ∧ zget cd b.1 = b.2.1.map vq ++ vrest cd b.2.2 ∧ k b = true
  | [], _, h => by cases h
  | q :: t, hB, h => by
    unfold bfd at h
    cases hb : Nat.beq q.1 i with
    | true =>
      rw [hb] at h
      exact ⟨q, Nat.eq_of_beq_eq_true hb, hB.1, h⟩
    | false =>
      rw [hb] at h
      exact bfd_ok hB.2 h
def args0 : Nat → List aV → List (Nat × aE)
  | _, [] => []
  | i, a :: t => (i, ePl a) :: args0 (bif Nat.beq a.1 1 then i + 2 else i + 1) t
noncomputable def amchk (T : List aL) (B : List aB) (cs : List (Nat × aC)) (c : aC) : Bool := T.all (fun l => l.2.1.2.1.all (fun e => Nat.beq e.2.2.1.1 0) && (match mlow l.2.1.1 l.2.2.2 with
  | some d => decide (0 ≤ l.2.2.1 + d)
  | none => false) && bfd B l.1 (fun b => cB (csf cs) (jmp T l) c.2.2.2.1 c.2.2.2.2.2.1 (c.2.1 - 1) c.2.2.2.2.2.2.1 c.2.2.2.2.2.2.2.2.2 b.2.2 b.2.1 l.1 (begin_ l.2.1))) && T.any (fun q => Nat.beq q.1 0 && sle (args0 0 c.2.2.1, [], c.2.2.2.2.2.2.2.1) q.2.1) && Nat.ble 1 c.2.1 && Nat.ble c.2.2.2.2.2.1 1 && c.2.2.2.2.1.isEmpty && isF2 c.2.2.2.2.2.2.2.1 && c.2.2.2.2.2.2.2.2.1.isEmpty
theorem args0_ok {H : PH} {ls0 : PL} : ∀ {as : List aV} {ps : List pv} (i : Nat) (ls : PL), aargs as ps → (∀ j p, pget (parg i ps) j = some p → pget ls j = some p) → (∀ q ∈ args0 i as, i ≤ q.1) ∧ lok ls0 ls H (args0 i as)
  | [], [], i, ls, _, _ => ⟨fun q hq => (by cases hq), fun q hq => (by cases hq)⟩
  | a :: as, p :: ps, i, ls, h, hl => by
    have e : (bif Nat.beq a.1 1 then i + 2 else i + 1) = if p.1 = 1 then i + 2 else i + 1 := by
      have h1 : p.1 = a.1 := h.1.1
      rw [h1]
      cases hb : Nat.beq a.1 1 with
      | true => rw [if_pos (Nat.eq_of_beq_eq_true hb)]; rfl
      | false => rw [if_neg (nbeq_ne hb)]; rfl
    have hge : i + 1 ≤ (if p.1 = 1 then i + 2 else i + 1) := by split <;> omega
    have hpg : ∀ (l : List pv) (k j : Nat) (v : pv), pget (parg k l) j = some v → k ≤ j := by
      intro l
      induction l with
      | nil => intro k j v h; cases h
      | cons b t ih =>
        intro k j v h
        have h : (if k = j then some b else pget (parg (if b.1 = 1 then k + 2 else k + 1) t) j) = some v := h
        by_cases q : k = j
        · omega
        · rw [if_neg q] at h
          have := ih _ _ _ h
          split at this <;> omega
    obtain ⟨h1, h2⟩ := args0_ok (as := as) (ps := ps) (if p.1 = 1 then i + 2 else i + 1) ls h.2 (fun j v hv => hl j v (by
      show (if i = j then some p else pget _ j) = some v
      have := hpg _ _ _ _ hv
      rw [if_neg (by omega)]
      exact hv))
    refine ⟨?_, ?_⟩
    · intro q hq
      rcases List.mem_cons.mp hq with rfl | hq
      · exact Nat.le_refl _
      · rw [e] at hq
        have := h1 q hq
        omega
    · intro q hq
      rcases List.mem_cons.mp hq with rfl | hq
      · exact ⟨p, hl i p (by show (if i = i then some p else _) = _; rw [if_pos rfl]), ePl_ok h.1⟩
      · rw [e] at hq
        exact h2 q hq
  | [], _ :: _, _, _, h, _ => h.elim
  | _ :: _, [], _, _, h, _ => h.elim
theorem am_ok {T : List aL} {B : List aB} {cs : List (Nat × aC)} {c : aC} {oc : Nat} {ini : Bool} {cc : ByteArray} {maxL : Nat} {rt : Option FieldType} {cd : zK} (hm : zget zM c.1 = some ((c.1, oc, ini, cc, maxL, rt), cd)) (hB : blOK cd B) (hml : ∀ as, aargs c.2.2.1 as → pcat as ≤ maxL) (hc : amchk T B cs c = true) (hcs : csOK cs) : CtOK c := by
  intro G us g H as hg hW ha hp
  unfold amchk at hc
  simp only [Bool.and_eq_true] at hc
  obtain ⟨⟨⟨⟨⟨⟨c1, c2⟩, c3⟩, c4⟩, c5⟩, c6⟩, c7⟩ := hc
  have c3 := Nat.le_of_ble_eq_true c3
  have c4 := Nat.le_of_ble_eq_true c4
  have hD : c.2.1 - 1 + 1 = c.2.1 := by omega
  refine ⟨oc, ini, cc, maxL, rt, cd, hm, hml as ha, ?_⟩
  have key : ∀ (n : Nat) (l : aL) (ls : PL) (st : List pv) (H' : PH), l ∈ T → (l.2.2.1 + mval ls l.2.2.2).toNat < n → (∃ ls1, sok c.2.2.2.2.2.1 c.2.2.2.2.2.2.1 g H ls1 l.2.1 ls st H') → Tr G us cd (c.2.1 - 1 + 1) (zget cd l.1) l.1 ls st H' (fun r H2 => WT c.2.2.2.2.2.1 g H2 ∧ rok c.2.2.2.1 r ∧ (∀ x, r = some (0, x) → ∀ f ∈ c.2.2.2.2.1, f.1 ≤ x → x ≤ f.2.1 → ∀ y, as[f.2.2.1]? = some (0, y) → f.2.2.2.1 ≤ y ∧ y ≤ f.2.2.2.2) ∧ frm c.2.2.2.2.2.2.1 H H2 ∧ (∀ x, r = some (0, x) → ∀ f ∈ c.2.2.2.2.2.2.2.2.1, f.1 ≤ x → x ≤ f.2.1 → fok [] H2 f.2.2) ∧ ∀ f ∈ c.2.2.2.2.2.2.2.2.2, fok [] H2 f) := by
    intro n
    induction n with
    | zero => intros; omega
    | succ n ih =>
      intro l ls st H' hl hn hs
      obtain ⟨ls1, hs⟩ := hs
      have h1 := List.all_eq_true.mp c1 l hl
      simp only [Bool.and_eq_true] at h1
      obtain ⟨⟨d1, d2⟩, d3⟩ := h1
      obtain ⟨b, b1, b2, b3⟩ := bfd_ok hB d3
      rw [b1] at b2
      have hlow : 0 ≤ l.2.2.1 + mval ls l.2.2.2 := by
        split at d2
        · rename_i d hd
          have := mlow_ok hs.1.1 hd
          have := decide_eq_true_iff.mp d2
          omega
        · cases d2
      refine tr_lab b.2.1 b.2.2 b2 ?_
      refine cB_ok (H0 := H) (ls0 := ls) (csf_ok hcs) c4 hg ?_ ?_ b.2.1 l.1 _ ls st H' b3 ⟨begin_ok hs.1 d1, hs.2⟩
      · intro t S ls' st' H2 hj hs'
        obtain ⟨q, q1, q2, q3⟩ := any_ok hj
        rw [Bool.and_eq_true] at q3
        rw [← q2]
        have hg' : gam ls' q.2.1 ls' st' H2 := sle_ok q3.1 hs'.1
        refine ih q ls' st' H2 q1 ?_ ⟨ls', hg', hs'.2⟩
        have h2 := q3.2
        split at h2
        · rename_i d hd
          have e1 := mdif_ok hs'.1.1 hs.1.1 hd
          have e2 := decide_eq_true_iff.mp h2
          have h3 := List.all_eq_true.mp c1 q q1
          simp only [Bool.and_eq_true] at h3
          have h4 := h3.1.2
          split at h4
          · rename_i d' hd'
            have e3 := mlow_ok hg'.1 hd'
            have e4 := decide_eq_true_iff.mp h4
            omega
          · cases h4
        · cases h2
      · intro r H2 r1 r2 r3 r4
        refine ⟨r2, r1, ?_, r3, ?_, r4⟩
        · intro x _ f hf
          rw [List.isEmpty_iff.mp c5] at hf
          cases hf
        · intro x _ f hf
          rw [List.isEmpty_iff.mp c7] at hf
          cases hf
  obtain ⟨q, q1, q2, q3⟩ := any_ok c2
  have h0 := (args0_ok (H := H) (ls0 := []) 0 (parg 0 as) ha (fun j p h => h)).2
  have hov : ∀ f ∈ c.2.2.2.2.2.2.2.1, fok (parg 0 as) H f := by
    intro f hf x hx
    have h2 := Nat.eq_of_beq_eq_true (List.all_eq_true.mp c6 f hf)
    refine hp f hf x ?_
    obtain ⟨⟨k1, k2, k3⟩, k4⟩ := f
    have h2 : k1 = 2 := h2
    subst h2
    exact hx
  have := key _ q (parg 0 as) [] H q1 (Nat.lt_succ_self _) ⟨[], sle_ok (ls0 := []) (S := (args0 0 c.2.2.1, [], c.2.2.2.2.2.2.2.1)) q3 ⟨h0, trivial, hov⟩, hW, frm_refl _ _⟩
  rw [q2, hD] at this
  exact this
theorem aargs_cat : ∀ {as : List aV} {ps : List pv}, aargs as ps → pcat ps = (as.map fun a => bif Nat.beq a.1 1 then 2 else 1).sum
  | [], [], _ => rfl
  | a :: as, p :: ps, h => by
    have ih := aargs_cat h.2
    unfold pcat at ih ⊢
    rw [List.map_cons, List.map_cons, List.sum_cons, List.sum_cons, ih]
    have h1 : p.1 = a.1 := h.1.1
    rw [h1]
    cases hb : Nat.beq a.1 1 with
    | true => rw [if_pos (Nat.eq_of_beq_eq_true hb)]; rfl
    | false => rw [if_neg (nbeq_ne hb)]; rfl
  | [], _ :: _, h => h.elim
  | _ :: _, [], h => h.elim
theorem am_ok' {T : List aL} {B : List aB} {cs : List (Nat × aC)} {c : aC} {oc : Nat} {ini : Bool} {cc : ByteArray} {maxL : Nat} {rt : Option FieldType} {cd : zK} (hm : zget zM c.1 = some ((c.1, oc, ini, cc, maxL, rt), cd)) (hB : blOK cd B) (hml : Nat.ble ((c.2.2.1.map fun a => bif Nat.beq a.1 1 then 2 else 1).sum) maxL = true) (hc : amchk T B cs c = true) (hcs : csOK cs) : CtOK c :=
  am_ok hm hB (fun as ha => by rw [aargs_cat ha]; exact Nat.le_of_ble_eq_true hml) hc hcs
