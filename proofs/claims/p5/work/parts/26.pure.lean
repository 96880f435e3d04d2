/-! ===== plain numbers: a value is a mark (0 int, 1 long, 2 reference) and an Int ===== -/
def zIn (x : Int) : Prop := -2147483648 ≤ x ∧ x < 2147483648
def zu (x : Int) : Nat := (x % 4294967296).toNat
def zw (x : Int) : Int := (x + 2147483648) % 4294967296 - 2147483648
theorem zw_in (x : Int) : zIn (zw x) := by
  unfold zIn zw
  omega
theorem zw_id {x : Int} (h : zIn x) : zw x = x := by
  unfold zIn at h
  unfold zw
  omega
theorem zu_lt (x : Int) : zu x < 4294967296 := by
  unfold zu
  omega
theorem zu_zw (x : Int) : zu (zw x) = zu x := by
  unfold zu zw
  omega
theorem zu_cast (x : Int) : (zu x : Int) = x % 4294967296 := by
  unfold zu
  omega
theorem zsu_def (u : Nat) : zsu u = (u + 2147483648) % 4294967296 := rfl
theorem zsu_zu {x : Int} (h : zIn x) : (zsu (zu x) : Int) = x + 2147483648 := by
  rw [zsu_def]
  unfold zIn at h
  have := zu_cast x
  have := zu_lt x
  omega
theorem zu_add (x y : Int) : (zu x + zu y) % 4294967296 = zu (zw (x + y)) := by
  rw [zu_zw]
  have h1 := zu_cast x
  have h2 := zu_cast y
  have h3 := zu_cast (x + y)
  omega
theorem zu_sub (x y : Int) : (zu x + (4294967296 - zu y % 4294967296)) % 4294967296 = zu (zw (x - y)) := by
  rw [zu_zw]
  have h1 := zu_cast x
  have h2 := zu_cast y
  have h3 := zu_cast (x - y)
  have := zu_lt y
  omega
theorem zu_mul (x y : Int) : (zu x * zu y) % 4294967296 = zu (zw (x * y)) := by
  rw [zu_zw]
  have h3 := zu_cast (x * y)
  have h : ((zu x * zu y % 4294967296 : Nat) : Int) = (x * y) % 4294967296 := by
    rw [Int.natCast_emod, Int.natCast_mul, zu_cast, zu_cast]
    show ((x % 4294967296) * (y % 4294967296)) % 4294967296 = _
    rw [← Int.mul_emod]
  omega
theorem zu_inj {x y : Int} (hx : zIn x) (hy : zIn y) (h : zu x = zu y) : x = y := by
  have h1 := zsu_zu hx
  have h2 := zsu_zu hy
  rw [h] at h1
  omega
theorem zu_nat {n : Nat} (h : n < 4294967296) : zu (n : Int) = n := by
  unfold zu
  omega
abbrev pv : Type := Nat × Int
def pok (p : pv) : Prop := match p.1 with
  | 0 => zIn p.2
  | 1 => 0 ≤ p.2 ∧ p.2 < 18446744073709551616
  | _ => -2 ≤ p.2
/-- a reference is the number of its cell; -2: null; -1: the script -/
def pe (p : pv) : zV := match p.1 with
  | 0 => zi (zu p.2)
  | 1 => zl p.2.toNat
  | _ => zr (p.2 + 2).toNat
abbrev PL : Type := List (Nat × pv)
def peL (ls : PL) : zLs := ls.map (fun q => (q.1, pe q.2))
def peS (st : List pv) : List zV := st.map pe
def pokL (ls : PL) : Prop := ∀ q ∈ ls, pok q.2
def pokS (st : List pv) : Prop := ∀ p ∈ st, pok p
def pget (ls : PL) (i : Nat) : Option pv := match ls with
  | [] => none
  | q :: t => if q.1 = i then some q.2 else pget t i
def pdrop (i : Nat) (w : Bool) (q : Nat × pv) : Bool := q.1 == i || (q.1 + 1 == i && q.2.1 == 1) || (w && q.1 == i + 1)
def pset (ls : PL) (i : Nat) (w : Bool) (p : pv) : PL := (i, p) :: ls.filter (fun q => !pdrop i w q)
theorem pe_I {p : pv} (h : p.1 = 0) : zisI (pe p) = true := by
  obtain ⟨t, x⟩ := p
  cases h
  rfl
theorem zisL_pe (p : pv) : zisL (pe p) = (p.1 == 1) := by
  obtain ⟨t, x⟩ := p
  match t with
  | 0 => rfl
  | 1 => rfl
  | _ + 2 => rfl
theorem zfind_pe (i : Nat) : ∀ ls : PL, zfind (peL ls) i = (pget ls i).map pe
  | [] => rfl
  | q :: t => by
    show Bool.rec (motive := fun _ => Option zV) (zfind (peL t) i) (some (pe q.2)) (Nat.beq q.1 i) = Option.map pe (if q.1 = i then some q.2 else pget t i)
    rw [zfind_pe i t, zbeq]
    by_cases h : q.1 = i
    · rw [if_pos h, beq_iff_eq.mpr h]
      rfl
    · rw [if_neg h, beq_eq_false_iff_ne.mpr h]
theorem zdrop_pe (i : Nat) (w : Bool) (q : Nat × pv) : zdrop i w (q.1, pe q.2) = pdrop i w q := by
  unfold zdrop pdrop
  rw [zisL_pe, zbeq, zbeq, zbeq]
theorem zfilter_pe (i : Nat) (w : Bool) : ∀ ls : PL, (peL ls).filter (fun q => !zdrop i w q) = peL (ls.filter (fun q => !pdrop i w q))
  | [] => rfl
  | q :: t => by
    show ((q.1, pe q.2) :: peL t).filter _ = _
    rw [List.filter_cons, List.filter_cons, zdrop_pe, zfilter_pe i w t]
    cases pdrop i w q <;> rfl
theorem pget_ok {i : Nat} {p : pv} : ∀ {ls : PL}, pokL ls → pget ls i = some p → pok p
  | [], _, h => by cases h
  | q :: t, hl, h => by
    unfold pget at h
    by_cases e : q.1 = i
    · rw [if_pos e] at h
      cases h
      exact hl q List.mem_cons_self
    · rw [if_neg e] at h
      exact pget_ok (fun x hx => hl x (List.mem_cons_of_mem _ hx)) h
theorem pset_ok {ls : PL} {i : Nat} {w : Bool} {p : pv} (hl : pokL ls) (hp : pok p) : pokL (pset ls i w p) := by
  intro q hq
  rcases List.mem_cons.mp hq with rfl | h
  · exact hp
  · exact hl q (List.mem_filter.mp h).1
theorem pokS_cons {p : pv} {st : List pv} : pokS (p :: st) ↔ pok p ∧ pokS st :=
  ⟨fun h => ⟨h p List.mem_cons_self, fun q hq => h q (List.mem_cons_of_mem _ hq)⟩, fun h q hq => by
    rcases List.mem_cons.mp hq with rfl | e
    · exact h.1
    · exact h.2 q e⟩
theorem zstore_pe (ls : PL) (i : Nat) (w : Bool) (p : pv) (k : zLs → zO) : zstore (peL ls) i w (pe p) k = k (peL (pset ls i w p)) := by
  rw [zstore_eq, zfilter_pe]
  rfl
