/-! ===== tries: a place by the bits of its number ===== -/
abbrev zT (α : Type) : Type := Lean.RArray α
noncomputable def zget {α : Type} (t : zT α) : Nat → α :=
  Lean.RArray.rec (motive := fun _ => Nat → α) (fun a _ => a) (fun _ _ _ l r i => Bool.rec (motive := fun _ => α) (r (Nat.div i (nat_lit 2))) (l (Nat.div i (nat_lit 2))) (Nat.beq (Nat.mod i (nat_lit 2)) (nat_lit 0))) t
noncomputable def zset {α β : Type} (t : zT α) (v : α) : Nat → (zT α → β) → β :=
  Lean.RArray.rec (motive := fun _ => Nat → (zT α → β) → β) (fun _ _ k => k (.leaf v)) (fun p l r sl sr i k => Bool.rec (motive := fun _ => β) (sr (Nat.div i (nat_lit 2)) (fun r' => k (.branch p l r'))) (sl (Nat.div i (nat_lit 2)) (fun l' => k (.branch p l' r))) (Nat.beq (Nat.mod i (nat_lit 2)) (nat_lit 0))) t
noncomputable def zrep {α : Type} (a : α) (d : Nat) : zT α := Nat.rec (motive := fun _ => zT α) (.leaf a) (fun _ t => .branch (nat_lit 0) t t) d
def zfull {α : Type} : Nat → zT α → Prop
  | 0, .leaf _ => True
  | d + 1, .branch _ l r => zfull d l ∧ zfull d r
  | _, _ => False
noncomputable def fN {β : Type} (n : Nat) (k : Nat → β) : β := Nat.rec (motive := fun _ => β) (k (nat_lit 0)) (fun m _ => k (Nat.succ m)) n
theorem fN_eq {β : Type} (n : Nat) (k : Nat → β) : fN n k = k n := by cases n <;> rfl
theorem zget_leaf {α : Type} (a : α) (i : Nat) : zget (.leaf a) i = a := rfl
theorem zget_branch {α : Type} (p : Nat) (l r : zT α) (i : Nat) : zget (.branch p l r) i = if i % 2 = 0 then zget l (i / 2) else zget r (i / 2) := by
  show Bool.rec (motive := fun _ => α) (zget r (i / 2)) (zget l (i / 2)) (Nat.beq (i % 2) 0) = _
  cases h : Nat.beq (i % 2) 0
  · have : ¬ i % 2 = 0 := fun e => by rw [e] at h; cases h
    rw [if_neg this]
  · have : i % 2 = 0 := Nat.eq_of_beq_eq_true h
    rw [if_pos this]
/-- the tree that zset hands on -/
noncomputable def zput {α : Type} (t : zT α) (v : α) (i : Nat) : zT α := zset t v i id
theorem zset_eq {α β : Type} (v : α) : ∀ (t : zT α) (i : Nat) (k : zT α → β), zset t v i k = k (zput t v i)
  | .leaf _, _, _ => rfl
  | .branch p l r, i, k => by
    show Bool.rec (motive := fun _ => β) (zset r v (i / 2) (fun r' => k (.branch p l r'))) (zset l v (i / 2) (fun l' => k (.branch p l' r))) (Nat.beq (i % 2) 0) = k (Bool.rec (motive := fun _ => zT α) (zset r v (i / 2) (fun r' => id (.branch p l r'))) (zset l v (i / 2) (fun l' => id (.branch p l' r))) (Nat.beq (i % 2) 0))
    cases Nat.beq (i % 2) 0
    · show zset r v (i / 2) (fun r' => k (.branch p l r')) = k (zset r v (i / 2) (fun r' => id (.branch p l r')))
      rw [zset_eq v r, zset_eq v r]
      rfl
    · show zset l v (i / 2) (fun l' => k (.branch p l' r)) = k (zset l v (i / 2) (fun l' => id (.branch p l' r)))
      rw [zset_eq v l, zset_eq v l]
      rfl
theorem zput_branch {α : Type} (p : Nat) (l r : zT α) (v : α) (i : Nat) : zput (.branch p l r) v i = if i % 2 = 0 then .branch p (zput l v (i / 2)) r else .branch p l (zput r v (i / 2)) := by
  show Bool.rec (motive := fun _ => zT α) (zset r v (i / 2) (fun r' => id (.branch p l r'))) (zset l v (i / 2) (fun l' => id (.branch p l' r))) (Nat.beq (i % 2) 0) = _
  cases h : Nat.beq (i % 2) 0
  · have : ¬ i % 2 = 0 := fun e => by rw [e] at h; cases h
    rw [if_neg this]
    show zset r v (i / 2) (fun r' => id (Lean.RArray.branch p l r')) = _
    rw [zset_eq]
    rfl
  · have : i % 2 = 0 := Nat.eq_of_beq_eq_true h
    rw [if_pos this]
    show zset l v (i / 2) (fun l' => id (Lean.RArray.branch p l' r)) = _
    rw [zset_eq]
    rfl
theorem zput_full {α : Type} (v : α) : ∀ (d : Nat) (t : zT α) (i : Nat), zfull d t → zfull d (zput t v i)
  | 0, .leaf _, _, _ => trivial
  | 0, .branch _ _ _, _, h => h.elim
  | _ + 1, .leaf _, _, h => h.elim
  | d + 1, .branch p l r, i, h => by
    rw [zput_branch]
    by_cases e : i % 2 = 0
    · rw [if_pos e]
      exact ⟨zput_full v d l _ h.1, h.2⟩
    · rw [if_neg e]
      exact ⟨h.1, zput_full v d r _ h.2⟩
theorem zget_zput {α : Type} (v : α) : ∀ (d : Nat) (t : zT α) (i j : Nat), zfull d t → i < 2 ^ d → j < 2 ^ d → zget (zput t v i) j = if j = i then v else zget t j
  | 0, .leaf _, i, j, _, hi, hj => by
    have h1 : i = 0 := by simpa using hi
    have h2 : j = 0 := by simpa using hj
    subst h1
    subst h2
    rfl
  | 0, .branch _ _ _, _, _, h, _, _ => h.elim
  | _ + 1, .leaf _, _, _, h, _, _ => h.elim
  | d + 1, .branch p l r, i, j, h, hi, hj => by
    have hi2 : i / 2 < 2 ^ d := by rw [Nat.pow_succ] at hi; omega
    have hj2 : j / 2 < 2 ^ d := by rw [Nat.pow_succ] at hj; omega
    rw [zput_branch, zget_branch]
    by_cases ei : i % 2 = 0 <;> by_cases ej : j % 2 = 0
    · rw [if_pos ei, zget_branch, if_pos ej, if_pos ej, zget_zput v d l _ _ h.1 hi2 hj2]
      by_cases e : j = i
      · rw [if_pos e, if_pos (by rw [e])]
      · rw [if_neg e, if_neg (by omega)]
    · rw [if_pos ei, zget_branch, if_neg ej, if_neg ej, if_neg (by omega)]
    · rw [if_neg ei, zget_branch, if_pos ej, if_pos ej, if_neg (by omega)]
    · rw [if_neg ei, zget_branch, if_neg ej, if_neg ej, zget_zput v d r _ _ h.2 hi2 hj2]
      by_cases e : j = i
      · rw [if_pos e, if_pos (by rw [e])]
      · rw [if_neg e, if_neg (by omega)]
theorem zrep_full {α : Type} (a : α) : ∀ d, zfull d (zrep a d)
  | 0 => trivial
  | d + 1 => ⟨zrep_full a d, zrep_full a d⟩
theorem zget_zrep {α : Type} (a : α) : ∀ (d i : Nat), zget (zrep a d) i = a
  | 0, _ => rfl
  | d + 1, i => by
    show zget (.branch 0 (zrep a d) (zrep a d)) i = a
    rw [zget_branch]
    by_cases e : i % 2 = 0
    · rw [if_pos e, zget_zrep a d]
    · rw [if_neg e, zget_zrep a d]
/-- every leaf is good -/
noncomputable def zall {α : Type} (f : α → Bool) (t : zT α) : Bool := Lean.RArray.rec (motive := fun _ => Bool) (fun a => f a) (fun _ _ _ l r => Bool.rec (motive := fun _ => Bool) false r l) t
theorem zall_get {α : Type} {f : α → Bool} : ∀ {t : zT α}, zall f t = true → ∀ i, f (zget t i) = true
  | .leaf _, h, _ => h
  | .branch p l r, h, i => by
    have h' : Bool.rec (motive := fun _ => Bool) false (zall f r) (zall f l) = true := h
    rw [zget_branch]
    cases hl : zall f l
    · rw [hl] at h'
      cases h'
    · rw [hl] at h'
      by_cases e : i % 2 = 0
      · rw [if_pos e]
        exact zall_get hl _
      · rw [if_neg e]
        exact zall_get h' _
/-! ===== the values: a known int; an int between bounds, perhaps one of the script's; a known long; a reference (0: null, 1: the script, n + 2: cell n) ===== -/
abbrev zV : Type := Nat ⊕ ((Int × Int × Nat) ⊕ (Nat ⊕ Nat))
abbrev zi (u : Nat) : zV := .inl u
abbrev za (lo hi : Int) (j : Nat) : zV := .inr (.inl (lo, hi, j))
abbrev zl (w : Nat) : zV := .inr (.inr (.inl w))
abbrev zr (r : Nat) : zV := .inr (.inr (.inr r))
def zI (u : Nat) : Int32 := Int32.ofBitVec (BitVec.ofNat 32 u)
def zU (x : Int32) : Nat := x.toBitVec.toNat
def zI6 (u : Nat) : Int64 := Int64.ofBitVec (BitVec.ofNat 64 u)
def zU6 (x : Int64) : Nat := x.toBitVec.toNat
theorem zI_zU (x : Int32) : zI (zU x) = x := by simp [zI, zU]
theorem zI6_zU6 (x : Int64) : zI6 (zU6 x) = x := by simp [zI6, zU6]
def zlo : Int := -2147483648
def zhi : Int := 2147483647
abbrev ztop : zV := za zlo zhi 0
/-- what is known of the script: its int 0 anded with 63, its length, its ints -/
abbrev zG : Type := Option zV × Option Nat × List zV
abbrev zC : Type := Nat × Nat × zT zV
abbrev zH : Type := zT zC
abbrev zLs : Type := List (Nat × zV)
/-- an entry: its place, instruction, the place behind it, what its operands come to -/
abbrev zE : Type := Nat × Instr × Nat × Nat × Nat
abbrev zO : Type := Option ((Nat × zLs × List zV × zH × Nat × Nat) ⊕ ((Nat × List zV × List zV × Nat) ⊕ Option zV))
abbrev zgo (pc : Nat) (ls : zLs) (st : List zV) (h : zH) : zO := some (.inl (pc, ls, st, h, nat_lit 0, nat_lit 0))
def zisI : zV → Bool
  | .inl _ => true
  | .inr (.inl _) => true
  | _ => false
def zisL : zV → Bool
  | .inr (.inr (.inl _)) => true
  | _ => false
/-- a reference that isn't null -/
def zisR : zV → Bool
  | .inr (.inr (.inr (_ + 1))) => true
  | _ => false
/-- of one slot -/
def zis1 : zV → Bool
  | .inr (.inr (.inl _)) => false
  | _ => true
noncomputable def zfind (ls : zLs) (i : Nat) : Option zV := List.rec (motive := fun _ => Option zV) none (fun q _ ih => Bool.rec (motive := fun _ => Option zV) ih (some q.2) (Nat.beq q.1 i)) ls
def zdrop (i : Nat) (w : Bool) (q : Nat × zV) : Bool := Nat.beq q.1 i || (Nat.beq (Nat.succ q.1) i && zisL q.2) || (w && Nat.beq q.1 (Nat.succ i))
noncomputable def zrm {β : Type} (i : Nat) (w : Bool) (ls : zLs) : (zLs → β) → β := List.rec (motive := fun _ => (zLs → β) → β) (fun k => k []) (fun q _ ih k => Bool.rec (motive := fun _ => β) (ih (fun t => k (q :: t))) (ih k) (zdrop i w q)) ls
theorem zrm_eq {β : Type} (i : Nat) (w : Bool) : ∀ (ls : zLs) (k : zLs → β), zrm i w ls k = k (ls.filter (fun q => !zdrop i w q))
  | [], _ => rfl
  | q :: t, k => by
    show Bool.rec (motive := fun _ => β) (zrm i w t (fun t => k (q :: t))) (zrm i w t k) (zdrop i w q) = _
    rw [List.filter_cons]
    cases h : zdrop i w q
    · show zrm i w t (fun t => k (q :: t)) = _
      rw [zrm_eq i w t]
      simp
    · show zrm i w t k = _
      rw [zrm_eq i w t]
      simp
noncomputable def zstore (ls : zLs) (i : Nat) (w : Bool) (a : zV) (k : zLs → zO) : zO := zrm i w ls (fun t => k ((i, a) :: t))
/-! ===== numbers ===== -/
noncomputable def zki (x : Int32) (k : zV → zO) : zO := fN (zU x) (fun u => k (zi u))
noncomputable def zkl (x : Int64) (k : zV → zO) : zO := fN (zU6 x) (fun u => k (zl u))
noncomputable def zb2 (f : Int32 → Int32 → Int32) (a b : zV) (k : zV → zO) : zO := match a, b with
  | .inl x, .inl y => zki (f (zI x) (zI y)) k
  | .inl _, .inr (.inl _) => k ztop
  | .inr (.inl _), .inl _ => k ztop
  | .inr (.inl _), .inr (.inl _) => k ztop
  | _, _ => none
/-- a number of 32 bits -/
noncomputable def zk32 (n : Nat) (k : zV → zO) : zO := fN (Nat.mod n (nat_lit 4294967296)) (fun u => k (zi u))
noncomputable def zinc (c : Nat) (a : zV) (k : zV → zO) : zO := match a with
  | .inl x => zk32 (Nat.add x c) k
  | .inr (.inl _) => k ztop
  | _ => none
noncomputable def zadd (a b : zV) (k : zV → zO) : zO := match a, b with
  | .inl x, .inl y => zk32 (Nat.add x y) k
  | .inl 0, .inr (.inl y) => k (.inr (.inl y))
  | a, b => zb2 (· + ·) a b k
noncomputable def zsub (a b : zV) (k : zV → zO) : zO := match a, b with
  | .inl x, .inl y => zk32 (Nat.add x (Nat.sub (nat_lit 4294967296) (Nat.mod y (nat_lit 4294967296)))) k
  | .inl 0, .inr (.inl (lo, hi, _)) => if 0 ≤ lo ∧ hi ≤ zhi then k (za (-hi) (-lo) 0) else none
  | a, b => zb2 (· - ·) a b k
noncomputable def zmul (a b : zV) (k : zV → zO) : zO := match a, b with
  | .inl x, .inl y => zk32 (Nat.mul x y) k
  | .inl 0, .inr (.inl _) => k (zi 0)
  | a, b => zb2 (· * ·) a b k
noncomputable def zwh (b : Bool) (k : zO) : zO := Bool.rec (motive := fun _ => zO) none k b
noncomputable def zand (G : zG) (a b : zV) (k : zV → zO) : zO := match a, b with
  | .inr (.inl (_, _, 1)), .inl 63 => (match G.1 with
    | some a => zwh (zisI a) (k a)
    | none => none)
  | a, b => zb2 (· &&& ·) a b k
/-- division, remainder: the divisor is known and not 0 -/
noncomputable def zdv (f : Int32 → Int32 → Int32) (a b : zV) (k : zV → zO) : zO := match b with
  | .inl y => if zI y = 0 then none else zb2 f a (zi y) k
  | _ => none
noncomputable def zu1 (f : Int32 → Int32) (a : zV) (k : zV → zO) : zO := match a with
  | .inl x => zki (f (zI x)) k
  | .inr (.inl _) => k ztop
  | _ => none
def zbd : zV → Option (Int × Int)
  | .inl u => some ((zI u).toInt, (zI u).toInt)
  | .inr (.inl (lo, hi, _)) => some (lo, hi)
  | _ => none
def zlt (la ha lb hb : Int) : Option Bool := if ha < lb then some true else if hb ≤ la then some false else none
def zeq (la ha lb hb : Int) : Option Bool := if la = ha ∧ lb = hb ∧ la = lb then some true else if ha < lb ∨ hb < la then some false else none
def znot : Option Bool → Option Bool
  | some true => some false
  | some false => some true
  | none => none
def zcb (c : Jvm.ClassFile.Cond) (la ha lb hb : Int) : Option Bool := match c with
  | .eq => zeq la ha lb hb
  | .ne => znot (zeq la ha lb hb)
  | .lt => zlt la ha lb hb
  | .ge => znot (zlt la ha lb hb)
  | .gt => zlt lb hb la ha
  | .le => znot (zlt lb hb la ha)
/-- both are the same int of the script -/
def zsame : zV → zV → Bool
  | .inr (.inl (_, _, i)), .inr (.inl (_, _, j)) => Nat.beq i j && Nat.blt 0 i
  | _, _ => false
def zrefl (c : Jvm.ClassFile.Cond) : Bool := match c with
  | .eq => true
  | .ge => true
  | .le => true
  | _ => false
def zcmpI (c : Jvm.ClassFile.Cond) (a b : zV) : Option Bool := if zsame a b = true then some (zrefl c) else match zbd a, zbd b with
  | some x, some y => zcb c x.1 x.2 y.1 y.2
  | _, _ => none
/-- a number of 32 bits, so that the order is the signed one -/
def zsu (u : Nat) : Nat := Nat.mod (Nat.add u (nat_lit 2147483648)) (nat_lit 4294967296)
def zcc (c : Jvm.ClassFile.Cond) (p q : Nat) : Bool := match c with
  | .eq => Nat.beq p q
  | .ne => not (Nat.beq p q)
  | .lt => Nat.blt p q
  | .ge => Nat.ble q p
  | .gt => Nat.blt q p
  | .le => Nat.ble p q
def zcmp (c : Jvm.ClassFile.Cond) (a b : zV) : Option Bool := match a, b with
  | .inl x, .inl y => some (zcc c (zsu x) (zsu y))
  | a, b => zcmpI c a b
/-! ===== cells ===== -/
/-- a cell that a reference names, or nothing -/
noncomputable def zcell (sz : Nat) (h : zH) (a : zV) (k : Nat → zC → zO) : zO := match a with
  | .inr (.inr (.inr (i + 2))) => Bool.rec (motive := fun _ => zO) none (k i (zget h i)) (Nat.blt i sz)
  | _ => none
/-- a known place in a row of n -/
noncomputable def zidx (n : Nat) (a : zV) (k : Nat → zO) : zO := match a with
  | .inl u => Bool.rec (motive := fun _ => zO) none (k u) (Nat.blt u n)
  | _ => none
noncomputable def zwhen (b : Bool) (k : zO) : zO := Bool.rec (motive := fun _ => zO) none k b
/-- n cells c, from place i on -/
noncomputable def zfillH {β : Type} (c : zC) (n : Nat) : Nat → zH → (zH → β) → β := Nat.rec (motive := fun _ => Nat → zH → (zH → β) → β) (fun _ h k => k h) (fun _ ih i h k => zset h c i (fun h' => fN (Nat.succ i) (fun i' => ih i' h' k))) n
/-- the references to n cells, from number r on, at the places from i on -/
noncomputable def zfillR {β : Type} (n : Nat) : Nat → Nat → zT zV → (zT zV → β) → β := Nat.rec (motive := fun _ => Nat → Nat → zT zV → (zT zV → β) → β) (fun _ _ t k => k t) (fun _ ih i r t k => zset t (zr r) i (fun t' => fN (Nat.succ i) (fun i' => fN (Nat.succ r) (fun r' => ih i' r' t' k)))) n
/-- a value that fits a field: 0 int, 1 long, 2 boolean, else a reference -/
def zfit (ft : Nat) (a : zV) : Bool := match ft with
  | 0 => zisI a
  | 1 => zisL a
  | 2 => match a with
    | .inl u => Nat.blt u 2
    | _ => false
  | _ => zisR a
def zdf (ft : Nat) : zV := match ft with
  | 0 => zi 0
  | 1 => zl 0
  | 2 => zi 0
  | _ => zr 0
/-- the deepest tree of cells -/
abbrev zdep : Nat := 10
