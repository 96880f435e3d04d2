/-! ===== the checker: an instruction over what is known ===== -/
def geq (a b : aG) : Bool := Nat.beq a.1 b.1 && Nat.beq a.2.1 b.2.1 && Nat.beq a.2.2 b.2.2
theorem geq_ok {a b : aG} (h : geq a b = true) : a = b := by
  unfold geq at h
  rw [Bool.and_eq_true, Bool.and_eq_true] at h
  obtain ⟨a1, a2, a3⟩ := a
  obtain ⟨b1, b2, b3⟩ := b
  have h1 : a1 = b1 := Nat.eq_of_beq_eq_true h.1.1
  have h2 : a2 = b2 := Nat.eq_of_beq_eq_true h.1.2
  have h3 : a3 = b3 := Nat.eq_of_beq_eq_true h.2
  rw [h1, h2, h3]
def ePl (a : aV) : aE := (a, (0, 0, 0), (0, 0), [])
theorem ePl_ok {ls0 ls : PL} {H : PH} {a : aV} {p : pv} (h : aval a p) : eok ls0 ls H (ePl a) p :=
  ⟨h, fun q => (q rfl).elim, fun v q => (by cases q), fun _ f q => (by cases q)⟩
/-! what is forgotten when a place changes -/
def killE (P : aG → Bool) (e : aE) : aE := (e.1, (bif P e.2.1 then (0, 0, 0) else e.2.1), e.2.2.1, e.2.2.2.filter (fun f => !P f.2.2.1))
def kill (P : aG → Bool) (S : aS) : aS := (S.1.map (fun q => (q.1, killE P q.2)), S.2.1.map (killE P), S.2.2.filter (fun f => !P f.1))
theorem killE_ok {P : aG → Bool} {ls0 ls ls' : PL} {H H' : PH} (hP : ∀ o x, P o = false → (oval ls' H' o x ↔ oval ls H o x)) {e : aE} {p : pv} (h : eok ls0 ls H e p) : eok ls0 ls' H' (killE P e) p := by
  obtain ⟨h1, h2, h3, h4⟩ := h
  refine ⟨h1, ?_, h3, ?_⟩
  · show (bif P e.2.1 then ((0, 0, 0) : aG) else e.2.1).1 ≠ 0 → p.1 = 0 ∧ oval ls' H' (bif P e.2.1 then (0, 0, 0) else e.2.1) p.2
    cases hp : P e.2.1 with
    | true => exact fun q => (q rfl).elim
    | false => exact fun q => ⟨(h2 q).1, (hP _ _ hp).mpr (h2 q).2⟩
  · intro q0 f hf q1 q2 x hx
    obtain ⟨g1, g2⟩ := List.mem_filter.mp hf
    have g3 : P f.2.2.1 = false := by
      cases hh : P f.2.2.1 with
      | true => rw [hh] at g2; cases g2
      | false => rfl
    exact h4 q0 f g1 q1 q2 x ((hP _ _ g3).mp hx)
theorem kill_st {P : aG → Bool} {ls0 ls ls' : PL} {H H' : PH} (hP : ∀ o x, P o = false → (oval ls' H' o x ↔ oval ls H o x)) {s : List aE} {st : List pv} (h : all2 (eok ls0 ls H) s st) : all2 (eok ls0 ls' H') (s.map (killE P)) st := all2_mono (fun _ _ q => killE_ok hP q) h
theorem kill_ov {P : aG → Bool} {ls ls' : PL} {H H' : PH} (hP : ∀ o x, P o = false → (oval ls' H' o x ↔ oval ls H o x)) {ov : List aF} (h : ∀ f ∈ ov, fok ls H f) : ∀ f ∈ ov.filter (fun f => !P f.1), fok ls' H' f := by
  intro f hf x hx
  obtain ⟨g1, g2⟩ := List.mem_filter.mp hf
  have g3 : P f.1 = false := by
    cases hh : P f.1 with
    | true => rw [hh] at g2; cases g2
    | false => rfl
  exact h f g1 x ((hP _ _ g3).mp hx)
theorem kill_lok {P : aG → Bool} {ls0 ls : PL} {H H' : PH} (hP : ∀ o x, P o = false → (oval ls H' o x ↔ oval ls H o x)) {al : List (Nat × aE)} (h : lok ls0 ls H al) : lok ls0 ls H' (al.map (fun q => (q.1, killE P q.2))) := by
  intro q hq
  obtain ⟨r, hr, rfl⟩ := List.mem_map.mp hq
  obtain ⟨p, h1, h2⟩ := h r hr
  exact ⟨p, h1, killE_ok hP h2⟩
theorem kill_H {P : aG → Bool} {ls0 ls : PL} {st : List pv} {H H' : PH} {S : aS} (hP : ∀ o x, P o = false → (oval ls H' o x ↔ oval ls H o x)) (h : gam ls0 S ls st H) : gam ls0 (kill P S) ls st H' := ⟨kill_lok hP h.1, kill_st hP h.2.1, kill_ov hP h.2.2⟩
/-! a local is set -/
def PL_ (v : Nat) (w : Bool) (o : aG) : Bool := (Nat.beq o.1 1 && (Nat.beq o.2.1 v || Nat.beq (o.2.1 + 1) v || (w && Nat.beq o.2.1 (v + 1)))) || (Nat.beq o.1 3 && (Nat.beq o.2.2 v || Nat.beq (o.2.2 + 1) v || (w && Nat.beq o.2.2 (v + 1))))
def ldrop (v : Nat) (w : Bool) (q : Nat × aE) : Bool := Nat.beq q.1 v || (Nat.beq (q.1 + 1) v && Nat.beq q.2.1.1 1) || (w && Nat.beq q.1 (v + 1))
def setL (v : Nat) (w : Bool) (e : aE) (S : aS) : aS := ((v, killE (PL_ v w) e) :: (S.1.filter (fun q => !ldrop v w q)).map (fun q => (q.1, killE (PL_ v w) q.2)), S.2.1.map (killE (PL_ v w)), S.2.2.filter (fun f => !PL_ v w f.1))
theorem nbeq_ne {a b : Nat} (h : Nat.beq a b = false) : a ≠ b := Nat.ne_of_beq_eq_false h
theorem pget_drop {v : Nat} {w : Bool} {j : Nat} {p : pv} : ∀ {ls : PL}, pget ls j = some p → pdrop v w (j, p) = false → pget (ls.filter (fun q => !pdrop v w q)) j = some p
  | [], h, _ => by cases h
  | q :: t, h, hd => by
    unfold pget at h
    rw [List.filter_cons]
    by_cases e : q.1 = j
    · rw [if_pos e] at h
      cases h
      have : pdrop v w q = false := by
        obtain ⟨a, b⟩ := q
        have e : a = j := e
        subst e
        exact hd
      rw [this]
      show (if q.1 = j then some q.2 else _) = some q.2
      rw [if_pos e]
    · rw [if_neg e] at h
      cases hq : pdrop v w q with
      | true => exact pget_drop h hd
      | false =>
        show (if q.1 = j then some q.2 else pget _ j) = some p
        rw [if_neg e]
        exact pget_drop h hd
theorem pget_drop' {v : Nat} {w : Bool} {j : Nat} {p : pv} (h1 : j ≠ v) (h2 : j + 1 ≠ v) (h3 : w = true → j ≠ v + 1) : ∀ {ls : PL}, pget (ls.filter (fun q => !pdrop v w q)) j = some p → pget ls j = some p
  | [], h => by cases h
  | q :: t, h => by
    rw [List.filter_cons] at h
    show (if q.1 = j then some q.2 else pget t j) = some p
    by_cases e : q.1 = j
    · have hd : pdrop v w q = false := by
        unfold pdrop
        rw [e, beq_eq_false_iff_ne.mpr h1, beq_eq_false_iff_ne.mpr h2]
        cases w with
        | false => rfl
        | true => rw [beq_eq_false_iff_ne.mpr (h3 rfl)]; rfl
      rw [hd] at h
      rw [if_pos e]
      have h' : (if q.1 = j then some q.2 else _) = some p := h
      rw [if_pos e] at h'
      exact h'
    · rw [if_neg e]
      cases hq : pdrop v w q with
      | true => rw [hq] at h; exact pget_drop' h1 h2 h3 h
      | false =>
        rw [hq] at h
        have h' : (if q.1 = j then some q.2 else pget _ j) = some p := h
        rw [if_neg e] at h'
        exact pget_drop' h1 h2 h3 h'
theorem pget_psetO {v : Nat} {w : Bool} {j : Nat} {ls : PL} {u p : pv} (h1 : j ≠ v) (h2 : j + 1 ≠ v) (h3 : w = true → j ≠ v + 1) : pget (pset ls v w u) j = some p ↔ pget ls j = some p := by
  show (if v = j then some u else pget _ j) = some p ↔ _
  rw [if_neg (fun e => h1 e.symm)]
  refine ⟨fun h => pget_drop' h1 h2 h3 h, fun h => pget_drop h ?_⟩
  unfold pdrop
  rw [beq_eq_false_iff_ne.mpr h1, beq_eq_false_iff_ne.mpr h2]
  cases w with
  | false => rfl
  | true => rw [beq_eq_false_iff_ne.mpr (h3 rfl)]; rfl
theorem or3_false {a b c : Bool} (h : (a || b || c) = false) : a = false ∧ b = false ∧ c = false := by
  revert h
  cases a <;> cases b <;> cases c <;> decide
theorem setL_oval {v : Nat} {w : Bool} {ls : PL} {H : PH} {u : pv} {o : aG} {x : Int} (h : PL_ v w o = false) : oval (pset ls v w u) H o x ↔ oval ls H o x := by
  obtain ⟨k, a, b⟩ := o
  unfold PL_ at h
  rw [Bool.or_eq_false_iff, Bool.and_eq_false_iff, Bool.and_eq_false_iff] at h
  match k with
  | 0 => exact Iff.rfl
  | 1 =>
    have h1 := or3_false (h.1.resolve_left (fun q => Bool.noConfusion (show true = false from q)))
    exact pget_psetO (nbeq_ne h1.1) (nbeq_ne h1.2.1) (fun q => by have := h1.2.2; rw [q] at this; exact nbeq_ne this)
  | 2 => exact Iff.rfl
  | 3 =>
    have h1 := or3_false (h.2.resolve_left (fun q => Bool.noConfusion (show true = false from q)))
    have e : ∀ y, pget (pset ls v w u) b = some (0, y) ↔ pget ls b = some (0, y) := fun y => pget_psetO (nbeq_ne h1.1) (nbeq_ne h1.2.1) (fun q => by have := h1.2.2; rw [q] at this; exact nbeq_ne this)
    exact ⟨fun ⟨y, h1, h2⟩ => ⟨y, (e y).mp h1, h2⟩, fun ⟨y, h1, h2⟩ => ⟨y, (e y).mpr h1, h2⟩⟩
  | _ + 4 => exact Iff.rfl
theorem setL_ok {v : Nat} {w : Bool} {ls0 ls : PL} {st : List pv} {H : PH} {S : aS} {e : aE} {p : pv} (h : gam ls0 S ls st H) (he : eok ls0 ls H e p) : gam ls0 (setL v w e S) (pset ls v w p) st H := by
  have hP : ∀ o x, PL_ v w o = false → (oval (pset ls v w p) H o x ↔ oval ls H o x) := fun o x q => setL_oval q
  refine ⟨?_, kill_st hP h.2.1, kill_ov hP h.2.2⟩
  intro q hq
  rcases List.mem_cons.mp hq with rfl | hq
  · exact ⟨p, by show (if v = v then some p else _) = _; rw [if_pos rfl], killE_ok hP he⟩
  · obtain ⟨r, hr, rfl⟩ := List.mem_map.mp hq
    obtain ⟨g1, g2⟩ := List.mem_filter.mp hr
    obtain ⟨p', h1, h2⟩ := h.1 r g1
    refine ⟨p', ?_, killE_ok hP h2⟩
    have g3 : ldrop v w r = false := by
      cases hh : ldrop v w r with
      | true => rw [hh] at g2; cases g2
      | false => rfl
    unfold ldrop at g3
    obtain ⟨k1, k2, k3⟩ := or3_false g3
    show (if v = r.1 then some p else pget _ r.1) = some p'
    rw [if_neg (fun q => nbeq_ne k1 q.symm)]
    refine pget_drop h1 ?_
    have ht : p'.1 = r.2.1.1 := h2.1.1
    unfold pdrop
    rw [beq_eq_false_iff_ne.mpr (nbeq_ne k1)]
    have k2' : (r.1 + 1 == v && p'.1 == 1) = false := by
      rw [Bool.and_eq_false_iff] at k2 ⊢
      rcases k2 with k2 | k2
      · exact Or.inl (beq_eq_false_iff_ne.mpr (nbeq_ne k2))
      · exact Or.inr (by rw [ht]; exact beq_eq_false_iff_ne.mpr (nbeq_ne k2))
    have k3' : (w && r.1 == v + 1) = false := by
      rw [Bool.and_eq_false_iff] at k3 ⊢
      exact k3.imp id (fun q => beq_eq_false_iff_ne.mpr (nbeq_ne q))
    show (false || (r.1 + 1 == v && p'.1 == 1) || (w && r.1 == v + 1)) = false
    rw [k2', k3']
    rfl
/-! what is learned at a branch -/
def meetE (e : aE) (lo hi : Int) : aE := (vmeet e.1 lo hi, e.2)
def rf (o : aG) (lo hi : Int) (S : aS) : aS := match o.1 with
  | 0 => S
  | 1 => (S.1.map (fun q => bif Nat.beq q.1 o.2.1 then (q.1, meetE q.2 lo hi) else q), S.2.1, S.2.2)
  | _ => (S.1, S.2.1, (o, lo, hi) :: S.2.2)
theorem rf_ok {ls0 ls : PL} {st : List pv} {H : PH} {S : aS} {o : aG} {lo hi : Int} (h : gam ls0 S ls st H) (hf : fok ls H (o, lo, hi)) : gam ls0 (rf o lo hi S) ls st H := by
  obtain ⟨k, a, b⟩ := o
  match k with
  | 0 => exact h
  | 1 =>
    refine ⟨?_, h.2.1, h.2.2⟩
    intro q hq
    obtain ⟨r, hr, rfl⟩ := List.mem_map.mp hq
    obtain ⟨p, h1, h2⟩ := h.1 r hr
    cases hb : Nat.beq r.1 a with
    | false =>
      exact ⟨p, h1, h2⟩
    | true =>
      refine ⟨p, h1, ?_⟩
      · show eok ls0 ls H (meetE r.2 lo hi) p
        have ea : r.1 = a := Nat.eq_of_beq_eq_true hb
        refine ⟨vmeet_ok h2.1 (fun q => ?_), h2.2⟩
        refine hf p.2 ?_
        show pget ls a = some (0, p.2)
        rw [← ea, h1, ← q]
  | k + 2 =>
    refine ⟨h.1, h.2.1, ?_⟩
    intro f hf'
    rcases List.mem_cons.mp hf' with rfl | h3
    · exact hf
    · exact h.2.2 f h3
def no0 (lo hi : Int) : Bool := decide (0 < lo) || decide (hi < 0)
def rfs (fs : List aF) (S : aS) : aS := fs.foldl (fun S f => rf f.1 f.2.1 f.2.2 S) S
theorem rfs_ok {ls0 ls : PL} {st : List pv} {H : PH} : ∀ {fs : List aF} {S : aS}, gam ls0 S ls st H → (∀ f ∈ fs, fok ls H f) → gam ls0 (rfs fs S) ls st H
  | [], _, h, _ => h
  | f :: t, S, h, hf => rfs_ok (fs := t) (rf_ok h (hf f List.mem_cons_self)) (fun g hg => hf g (List.mem_cons_of_mem _ hg))
def rfE (e : aE) (lo hi : Int) (S : aS) : aS := rfs ((e.2.2.2.filter (fun f => decide (f.1 ≤ lo) && decide (hi ≤ f.2.1))).map (fun f => f.2.2)) (rf e.2.1 lo hi S)
theorem oval_fun {ls : PL} {H : PH} {o : aG} {x y : Int} (h : oval ls H o x) (h' : oval ls H o y) : x = y := by
  obtain ⟨k, a, b⟩ := o
  match k, h, h' with
  | 1, h, h' =>
    have e : some ((0, x) : pv) = some (0, y) := (show pget ls a = some (0, x) from h).symm.trans h'
    cases e
    rfl
  | 2, h, h' => exact (show gv H a b = x from h).symm.trans h'
  | 3, ⟨u, h1, h2⟩, ⟨v, h3, h4⟩ =>
    have e : some ((0, u) : pv) = some (0, v) := h1.symm.trans h3
    cases e
    exact h2.symm.trans h4
theorem rfE_ok {ls0 ls : PL} {st : List pv} {H : PH} {S : aS} {e : aE} {p : pv} {lo hi : Int} (h : gam ls0 S ls st H) (he : eok ls0 ls H e p) (h0 : p.1 = 0) (h1 : lo ≤ p.2) (h2 : p.2 ≤ hi) : gam ls0 (rfE e lo hi S) ls st H := by
  have hg : gam ls0 (rf e.2.1 lo hi S) ls st H := by
    by_cases e0 : e.2.1.1 = 0
    · have : rf e.2.1 lo hi S = S := by
        clear h1 h2 he h0
        obtain ⟨av, ⟨k, a, b⟩, sy, fs⟩ := e
        have e0 : k = 0 := e0
        subst e0
        rfl
      rw [this]
      exact h
    · refine rf_ok h (fun x hx => ?_)
      have := oval_fun hx (he.2.1 e0).2
      subst this
      exact ⟨h1, h2⟩
  refine rfs_ok hg ?_
  intro f hf
  obtain ⟨q, hq, rfl⟩ := List.mem_map.mp hf
  obtain ⟨g1, g2⟩ := List.mem_filter.mp hq
  rw [Bool.and_eq_true, decide_eq_true_iff, decide_eq_true_iff] at g2
  exact he.2.2.2 h0 q g1 (Int.le_trans g2.1 h1) (Int.le_trans h2 g2.2)
def rcond (r : Nat) (x y : Int) : Prop := match r with
  | 0 => x = y
  | 1 => ¬ x = y
  | 2 => x < y
  | 3 => y ≤ x
  | 4 => y < x
  | _ => x ≤ y
def rb (r : Nat) (a b : aV) : Int × Int × Int × Int := match r with
  | 0 => (imax a.2.1 b.2.1, imin a.2.2.1 b.2.2.1, imax a.2.1 b.2.1, imin a.2.2.1 b.2.2.1)
  | 1 => (if b.2.2.2 = 0 ∧ a.2.1 = b.2.1 then a.2.1 + 1 else a.2.1, if b.2.2.2 = 0 ∧ a.2.2.1 = b.2.1 then a.2.2.1 - 1 else a.2.2.1, b.2.1, b.2.2.1)
  | 2 => (a.2.1, imin a.2.2.1 (b.2.2.1 - 1), imax b.2.1 (a.2.1 + 1), b.2.2.1)
  | 3 => (imax a.2.1 b.2.1, a.2.2.1, b.2.1, imin b.2.2.1 a.2.2.1)
  | 4 => (imax a.2.1 (b.2.1 + 1), a.2.2.1, b.2.1, imin b.2.2.1 (a.2.2.1 - 1))
  | _ => (a.2.1, imin a.2.2.1 b.2.2.1, imax b.2.1 a.2.1, b.2.2.1)
theorem rb_ok {r : Nat} {a b : aV} {x y : Int} (hx : vint a x) (hy : vint b y) (hc : rcond r x y) : ((rb r a b).1 ≤ x ∧ x ≤ (rb r a b).2.1) ∧ (rb r a b).2.2.1 ≤ y ∧ y ≤ (rb r a b).2.2.2 := by
  have h1 := hx.1
  have h2 := hx.2.1
  have h3 := hy.1
  have h4 := hy.2.1
  match r, hc with
  | 0, hc =>
    have hc : x = y := hc
    show (imax a.2.1 b.2.1 ≤ x ∧ x ≤ imin a.2.2.1 b.2.2.1) ∧ imax a.2.1 b.2.1 ≤ y ∧ y ≤ imin a.2.2.1 b.2.2.1
    unfold imax imin
    split <;> split <;> omega
  | 1, hc =>
    have hc : ¬ x = y := hc
    show ((if b.2.2.2 = 0 ∧ a.2.1 = b.2.1 then a.2.1 + 1 else a.2.1) ≤ x ∧ x ≤ (if b.2.2.2 = 0 ∧ a.2.2.1 = b.2.1 then a.2.2.1 - 1 else a.2.2.1)) ∧ b.2.1 ≤ y ∧ y ≤ b.2.2.1
    by_cases e : b.2.2.2 = 0
    · have e2 := hy.2.2
      rw [e] at e2
      have e3 := zero_dvd e2
      split <;> split <;> omega
    · rw [if_neg (fun q => e q.1), if_neg (fun q => e q.1)]
      omega
  | 2, hc =>
    have hc : x < y := hc
    show (a.2.1 ≤ x ∧ x ≤ imin a.2.2.1 (b.2.2.1 - 1)) ∧ imax b.2.1 (a.2.1 + 1) ≤ y ∧ y ≤ b.2.2.1
    unfold imax imin
    split <;> split <;> omega
  | 3, hc =>
    have hc : y ≤ x := hc
    show (imax a.2.1 b.2.1 ≤ x ∧ x ≤ a.2.2.1) ∧ b.2.1 ≤ y ∧ y ≤ imin b.2.2.1 a.2.2.1
    unfold imax imin
    split <;> split <;> omega
  | 4, hc =>
    have hc : y < x := hc
    show (imax a.2.1 (b.2.1 + 1) ≤ x ∧ x ≤ a.2.2.1) ∧ b.2.1 ≤ y ∧ y ≤ imin b.2.2.1 (a.2.2.1 - 1)
    unfold imax imin
    split <;> split <;> omega
  | _ + 5, hc =>
    have hc : x ≤ y := hc
    show (a.2.1 ≤ x ∧ x ≤ imin a.2.2.1 b.2.2.1) ∧ imax b.2.1 a.2.1 ≤ y ∧ y ≤ b.2.2.1
    unfold imax imin
    split <;> split <;> omega
def cbr (r : Nat) (ex ey : aE) (S : aS) (k : aS → Bool) : Bool :=
  (fun b : Int × Int × Int × Int => decide (b.2.1 < b.1) || decide (b.2.2.2 < b.2.2.1) || k (rfE ey b.2.2.1 b.2.2.2 (rfE ex b.1 b.2.1 S))) (rb r ex.1 ey.1)
theorem cbr_ok {r : Nat} {ls0 ls : PL} {st : List pv} {H : PH} {S : aS} {ex ey : aE} {x y : Int} {k : aS → Bool} (hc : cbr r ex ey S k = true) (h : gam ls0 S ls st H) (hx : eok ls0 ls H ex (0, x)) (hy : eok ls0 ls H ey (0, y)) (tx : ex.1.1 = 0) (ty : ey.1.1 = 0) (hr : rcond r x y) : ∃ S', k S' = true ∧ gam ls0 S' ls st H := by
  obtain ⟨⟨b1, b2⟩, b3, b4⟩ := rb_ok (aval_int hx.1 tx).2 (aval_int hy.1 ty).2 hr
  unfold cbr at hc
  simp only [Bool.or_eq_true, decide_eq_true_iff] at hc
  have b1 : (rb r ex.1 ey.1).1 ≤ x := b1
  have b2 : x ≤ (rb r ex.1 ey.1).2.1 := b2
  have b3 : (rb r ex.1 ey.1).2.2.1 ≤ y := b3
  have b4 : y ≤ (rb r ex.1 ey.1).2.2.2 := b4
  rcases hc with (hc | hc) | hc
  · omega
  · omega
  · exact ⟨_, hc, rfE_ok (rfE_ok h hx rfl b1 b2) hy rfl b3 b4⟩
