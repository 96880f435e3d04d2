/-! ===== what is checked of every entry of the tables, ahead of a run ===== -/
def zlen : Instr → Nat
  | .aload _ => 2
  | .iload _ => 2
  | .lload _ => 2
  | .astore _ => 2
  | .istore _ => 2
  | .lstore _ => 2
  | .iinc _ _ => 3
  | .bipush _ => 2
  | .sipush _ => 3
  | .ldc _ => 2
  | .ldc_w _ => 3
  | .ldc2_w _ => 3
  | .goto _ => 3
  | .ifCond _ _ => 3
  | .if_icmp _ _ => 3
  | .getfield _ => 3
  | .putfield _ => 3
  | .new _ => 3
  | .newarray _ => 2
  | .anewarray _ => 3
  | .multianewarray _ _ => 4
  | .invokevirtual _ => 3
  | .invokestatic _ => 3
  | .invokespecial _ => 3
  | _ => 1
def zisSw : Instr → Bool
  | .tableswitch _ _ _ _ => true
  | .lookupswitch _ _ => true
  | _ => false
/-- the classes by their numbers: 13 java/lang/Math, 14 the law -/
def zcn (oc : Nat) : String := match oc with
  | 0 => RX0
  | 1 => RX1
  | 2 => RX2
  | 3 => RX3
  | 4 => RX4
  | 5 => RX5
  | 6 => RX6
  | 7 => RX7
  | 8 => RX8
  | 9 => RX9
  | 10 => RX10
  | 11 => RX11
  | 12 => RX12
  | 13 => RJ9
  | _ => RL
def zfo : FieldType → Nat
  | .int => 0
  | .long => 1
  | .boolean => 2
  | .object _ => 3
  | .array _ => 3
  | _ => 9
def zkc (k : Nat) : String := match k with
  | 20 => RX0
  | 21 => RX5
  | _ => RX2
/-- fields (index, class, place, final, type), classes made (index, class), rows of objects made (index, kind), rows of rows (index), ints and longs (index, number), calls (index, kind, method, words) of a class -/
abbrev zTb : Type := (Nat → List (Nat × Nat × Nat × Bool × Nat)) × (Nat → List (Nat × Nat)) × (Nat → List (Nat × Nat)) × (Nat → List Nat) × (Nat → List (Nat × Nat)) × (Nat → List (Nat × Nat)) × (Nat → List (Nat × Nat × Nat × Nat))
abbrev zTb.fl (t : zTb) := t.1
abbrev zTb.nl (t : zTb) := t.2.1
abbrev zTb.al (t : zTb) := t.2.2.1
abbrev zTb.mm (t : zTb) := t.2.2.2.1
abbrev zTb.ki (t : zTb) := t.2.2.2.2.1
abbrev zTb.kl (t : zTb) := t.2.2.2.2.2.1
abbrev zTb.ml (t : zTb) := t.2.2.2.2.2.2
def zchI (tb : zTb) (oc : Nat) (ini : Bool) (nL : Nat) (rt : Option FieldType) (pc : Nat) (ins : Instr) (a1 a2 : Nat) : Bool := match ins with
  | .istore_n i => Nat.blt i.val nL && Nat.beq a1 i.val
  | .istore i => Nat.blt i nL && Nat.beq a1 i
  | .astore_n i => Nat.blt i.val nL && Nat.beq a1 i.val
  | .astore i => Nat.blt i nL && Nat.beq a1 i
  | .lstore_n i => Nat.blt (i.val + 1) nL && Nat.beq a1 i.val
  | .lstore i => Nat.blt (i + 1) nL && Nat.beq a1 i
  | .iinc i n => Nat.blt i nL && Nat.beq a1 i && decide (Int32.ofInt n = zI a2)
  | .aload_n i => Nat.beq a1 i.val
  | .aload i => Nat.beq a1 i
  | .iload_n i => Nat.beq a1 i.val
  | .iload i => Nat.beq a1 i
  | .lload_n i => Nat.beq a1 i.val
  | .lload i => Nat.beq a1 i
  | .iconst n => decide (Int32.ofInt n = zI a1)
  | .bipush n => decide ((Int8.ofInt n).toInt32 = zI a1)
  | .sipush n => decide ((Int16.ofInt n).toInt32 = zI a1)
  | .lconst n => decide (Int64.ofNat (n : Nat) = zI6 a1)
  | .ldc i => (tb.ki oc).any (fun q => q.1 == i && q.2 == a1)
  | .ldc_w i => (tb.ki oc).any (fun q => q.1 == i && q.2 == a1)
  | .ldc2_w i => (tb.kl oc).any (fun q => q.1 == i && q.2 == a1)
  | .goto off => decide ((pc : Int) + off = (a1 : Int))
  | .ifCond _ off => decide ((pc : Int) + off = (a1 : Int))
  | .if_icmp _ off => decide ((pc : Int) + off = (a1 : Int))
  | .lookupswitch _ ps => (ps.toList.zip (ps.toList.drop 1)).all (fun (a, next) => a.1 < next.1)
  | .getfield i => (tb.fl oc).any (fun q => q.1 == i && q.2.1 == a1 && q.2.2.1 == a2)
  | .putfield i => (tb.fl oc).any (fun q => q.1 == i && q.2.1 == a1 && q.2.2.1 == a2 % 64 && q.2.2.2.2 == a2 / 64 && (!q.2.2.2.1 || (ini && a1 == oc)))
  | .new i => (tb.nl oc).any (fun q => q.1 == i && q.2 == a1)
  | .anewarray i => (tb.al oc).any (fun q => q.1 == i && q.2 == a1)
  | .multianewarray i _ => (tb.mm oc).any (fun q => q == i)
  | .invokevirtual i => (tb.ml oc).any (fun q => q.1 == i && q.2.1 == 0 && q.2.2.1 == a1 && q.2.2.2 == a2)
  | .invokestatic i => (tb.ml oc).any (fun q => q.1 == i && q.2.1 == 1 && q.2.2.1 == a1 && q.2.2.2 == a2)
  | .invokespecial i => (tb.ml oc).any (fun q => q.1 == i && q.2.1 == 2 && q.2.2.1 == a1 && q.2.2.2 == a2)
  | .ireturn => decide (rt.map zfo = some a1) && (a1 == 0 || a1 == 2)
  | .areturn => decide (rt.map zfo = some 3)
  | .lreturn => decide (rt.map zfo = some 1)
  | .return_ => decide (rt = none)
  | _ => true
def zchk (tb : zTb) (oc : Nat) (ini : Bool) (cc : ByteArray) (nL : Nat) (rt : Option FieldType) (e : zE) : Bool :=
  (if zisSw e.2.1 then decide (decode cc e.1 = .ok (e.2.1, e.2.2.1 - e.1)) else decide (decode cc e.1 = .ok (e.2.1, zlen e.2.1)) && e.2.2.1 == e.1 + zlen e.2.1) && zchI tb oc ini nL rt e.1 e.2.1 e.2.2.2.1 e.2.2.2.2
/-- what does an instruction in the run is what zstep says of it -/
theorem zdisp_eq {tb : zTb} {oc : Nat} {ini : Bool} {nL : Nat} {rt : Option FieldType} {pc npc a1 a2 : Nat} {ins : Instr} (h : zchI tb oc ini nL rt pc ins a1 a2 = true) (G : zG) (ls : zLs) (st : List zV) (sz : Nat) (hp : zH) : zdisp ins G pc npc a1 a2 ls st sz hp = zstep G ins npc a1 a2 pc ls st sz hp := by
  cases ins with
  | aload_n i =>
    cases (Nat.eq_of_beq_eq_true h : a1 = i.val)
    rfl
  | aload i =>
    cases (Nat.eq_of_beq_eq_true h : a1 = i)
    rfl
  | iload_n i =>
    cases (Nat.eq_of_beq_eq_true h : a1 = i.val)
    rfl
  | iload i =>
    cases (Nat.eq_of_beq_eq_true h : a1 = i)
    rfl
  | lload_n i =>
    cases (Nat.eq_of_beq_eq_true h : a1 = i.val)
    rfl
  | lload i =>
    cases (Nat.eq_of_beq_eq_true h : a1 = i)
    rfl
  | istore_n i =>
    have h : (Nat.blt i.val nL && Nat.beq a1 i.val) = true := h
    rw [Bool.and_eq_true] at h
    cases (Nat.eq_of_beq_eq_true h.2 : a1 = i.val)
    rfl
  | istore i =>
    have h : (Nat.blt i nL && Nat.beq a1 i) = true := h
    rw [Bool.and_eq_true] at h
    cases (Nat.eq_of_beq_eq_true h.2 : a1 = i)
    rfl
  | astore_n i =>
    have h : (Nat.blt i.val nL && Nat.beq a1 i.val) = true := h
    rw [Bool.and_eq_true] at h
    cases (Nat.eq_of_beq_eq_true h.2 : a1 = i.val)
    rfl
  | astore i =>
    have h : (Nat.blt i nL && Nat.beq a1 i) = true := h
    rw [Bool.and_eq_true] at h
    cases (Nat.eq_of_beq_eq_true h.2 : a1 = i)
    rfl
  | lstore_n i =>
    have h : (Nat.blt (i.val + 1) nL && Nat.beq a1 i.val) = true := h
    rw [Bool.and_eq_true] at h
    cases (Nat.eq_of_beq_eq_true h.2 : a1 = i.val)
    rfl
  | lstore i =>
    have h : (Nat.blt (i + 1) nL && Nat.beq a1 i) = true := h
    rw [Bool.and_eq_true] at h
    cases (Nat.eq_of_beq_eq_true h.2 : a1 = i)
    rfl
  | iinc i n =>
    have h : (Nat.blt i nL && Nat.beq a1 i && decide (Int32.ofInt n = zI a2)) = true := h
    rw [Bool.and_eq_true, Bool.and_eq_true] at h
    cases (Nat.eq_of_beq_eq_true h.1.2 : a1 = i)
    rfl
  | ifCond c off => cases c <;> rfl
  | if_icmp c off => cases c <;> rfl
  | newarray t => cases t <;> rfl
  | multianewarray i k =>
    match k with
    | 0 => rfl
    | 1 => rfl
    | 2 => rfl
    | k + 3 => rfl
  | _ => rfl
/-! ===== what the tables' lists say ===== -/
def zFlOK (tb : zTb) : Prop := ∀ (oc i ci k : Nat) (fin : Bool) (ft : Nat), (i, ci, k, fin, ft) ∈ tb.fl oc → ∃ (C : String) (T : u_T) (N : Nat), vwCl[ci]? = some (C, T, N) ∧ k < N ∧ Cond.fieldLink (zcn oc) i (T k).1 (T k).2.1 (T k).2.2.1 ∈ zws ∧ (T k).2.2.2 = fin ∧ (parseFieldDescriptor (T k).2.2.1).map zfo = some ft ∧ ft ≤ 3 ∧ k < 64
def zClOK : Prop := ∀ (ci : Nat) (C : String) (T : u_T) (N : Nat), vwCl[ci]? = some (C, T, N) → C = zcn ci ∧ (∀ k, k < N → (T k).1 = C) ∧ (∀ w ∈ u_ws C T N, w ∈ zws) ∧
  (∃ ty : Nat → FieldType, (∀ k, k < N → parseFieldDescriptor (T k).2.2.1 = some (ty k)) ∧ ∀ k, k < N → zfo (ty k) ≤ 3 ∧ zget (zini ci).2.2.2 k = zdf (zfo (ty k))) ∧ (∀ a, a < N → ∀ b, b < N → a ≠ b → (T a).2.1 ≠ (T b).2.1) ∧
  Cond.instantiable C N ∈ zws ∧ Cond.initialized C ∈ zws ∧ (zini ci).1 = ci ∧ (zini ci).2.1 = N ∧ N < 64 ∧ ∃ d, zfull d 0 (zini ci).2.2.2 ∧ N ≤ 2 ^ d
def zNlOK (tb : zTb) : Prop := ∀ oc i ci : Nat, (i, ci) ∈ tb.nl oc → ∃ (C : String) (T : u_T) (N : Nat), vwCl[ci]? = some (C, T, N) ∧ Cond.classLink (zcn oc) i C ∈ zws
def zAlOK (tb : zTb) : Prop := ∀ oc i k : Nat, (i, k) ∈ tb.al oc → (20 ≤ k ∧ k ≤ 22) ∧ Cond.classLink (zcn oc) i (zkc k) ∈ zws ∧ Cond.arrayOver (.object (zkc k)) ∈ lw_tbl
def zMmOK (tb : zTb) : Prop := ∀ oc i : Nat, i ∈ tb.mm oc → Cond.classLink (zcn oc) i ("[" ++ (FieldType.array .int).toString) ∈ zws
def zKiOK (tb : zTb) : Prop := ∀ oc i u : Nat, (i, u) ∈ tb.ki oc → Cond.constant (zcn oc) i (zI u) ∈ zws
def zKlOK (tb : zTb) : Prop := ∀ oc i u : Nat, (i, u) ∈ tb.kl oc → Cond.constantLong (zcn oc) i (zI6 u) ∈ zws
def zArOK : Prop := Cond.arrayClass .int ∈ zws ∧ Cond.arrayClass .byte ∈ zws ∧ Cond.arrayClass .boolean ∈ zws ∧ Cond.arrayOver (.array .int) ∈ lw_tbl
def zlink (own : String) (i : Nat) (y : MethodName) : Prop := Cond.methodLink own i y ∈ zws ∨ ∃ host, Cond.methodLinkNest own i y host ∈ lw_tbl
def zMlOK (tb : zTb) (ys : List MethodName) : Prop := ∀ oc i kd mj a2 : Nat, (i, kd, mj, a2) ∈ tb.ml oc →
  (mj = 511 ∧ kd = 2 ∧ a2 = 1 ∧ Cond.methodLink (zcn oc) i objectInit ∈ zws ∧ Cond.instanceMethod objectInit ∈ zws ∧ Cond.code objectInit ⟨#[0xb1]⟩ 1 none ∈ zws) ∨
  (mj ≠ 511 ∧ ∃ y : MethodName, ys[mj]? = some y ∧ zlink (zcn oc) i y ∧ Cond.initialized y.cls ∈ zws ∧
    ((kd = 0 ∧ Cond.instanceMethod y ∈ zws ∧ Cond.selects y.cls y y ∈ zws ∧ (parseMethodDescriptor y.desc).map (fun d => d.parameters.length + 1) = some (a2 % 16) ∧ a2 / 16 ≠ 0 ∧ ∃ (T : u_T) (N : Nat), vwCl[a2 / 16 - 1]? = some (y.cls, T, N)) ∨
     (kd = 1 ∧ Cond.static y ∈ zws ∧ (parseMethodDescriptor y.desc).map (fun d => d.parameters.length) = some (a2 % 16) ∧ a2 / 16 = 0) ∨
     (kd = 2 ∧ y.name = "<init>" ∧ Cond.instanceMethod y ∈ zws ∧ (parseMethodDescriptor y.desc).map (fun d => d.parameters.length + 1) = some (a2 % 16) ∧ a2 / 16 = 0)))
def zchM (oc : Nat) (cc : ByteArray) (pc i k : Nat) : Bool := decide (decode cc pc = .ok (.invokestatic i, 3)) && (zmt oc).any (fun x => x.1 == i && x.2 == k)
def zmy (k : Nat) : MethodName := match k with
  | 0 => Lib.Math.max.name
  | 1 => Lib.Math.min.name
  | _ => Lib.Math.abs.name
def zMtOK : Prop := (∀ oc i k : Nat, (i, k) ∈ zmt oc → Cond.methodLink (zcn oc) i (zmy k) ∈ zws) ∧ (∀ k, Cond.static (zmy k) ∈ zws) ∧ Cond.initialized "java/lang/Math" ∈ zws ∧ Cond.code Lib.Math.max.name Lib.Math.max.code 2 (some .int) ∈ zws ∧ Cond.code Lib.Math.min.name Lib.Math.min.code 2 (some .int) ∈ zws ∧ Cond.code Lib.Math.abs.name Lib.Math.abs.code 1 (some .int) ∈ zws
def zEok (tb : zTb) (oc : Nat) (ini : Bool) (cc : ByteArray) (nL : Nat) (rt : Option FieldType) (l : List zQ) : Prop := ∀ q ∈ l, (∃ e : zE, q = zenc e ∧ zchk tb oc ini cc nL rt e = true) ∨ ∃ pc i k : Nat, q = zencM pc k ∧ zchM oc cc pc i k = true
def zMrOK (tb : zTb) (ys : List MethodName) (r : zMR) : Prop := ∃ y : MethodName, ys[r.1.1]? = some y ∧ Cond.code y r.1.2.2.2.1 r.1.2.2.2.2.1 r.1.2.2.2.2.2 ∈ zws ∧ y.cls = zcn r.1.2.1 ∧ plainName y.cls = true ∧ (y.cls ≠ "java/lang/invoke/MethodHandle" ∧ y.cls ≠ "java/lang/invoke/VarHandle") ∧ (r.1.2.2.1 = true → y.name = "<init>") ∧ r.1.2.2.2.2.1 ≤ 40 ∧ zAll (zEok tb r.1.2.1 r.1.2.2.1 r.1.2.2.2.1 r.1.2.2.2.2.1 r.1.2.2.2.2.2) r.2 ∧ (y.name = "<init>" → r.1.2.2.2.2.2 = none)
