/-! ===== one instruction ===== -/
noncomputable def zld (p : zV → Bool) (ls : zLs) (i : Nat) (k : zV → zO) : zO := match zfind ls i with
  | some a => zwhen (p a) (k a)
  | none => none
def z1 (st : List zV) (k : zV → List zV → zO) : zO := match st with
  | a :: r => k a r
  | _ => none
def z2 (st : List zV) (k : zV → zV → List zV → zO) : zO := match st with
  | b :: a :: r => k a b r
  | _ => none
def z3 (st : List zV) (k : zV → zV → zV → List zV → zO) : zO := match st with
  | c :: b :: a :: r => k a b c r
  | _ => none
def zbr (o : Option Bool) (t f : zO) : zO := match o with
  | some true => t
  | some false => f
  | none => none
def ztgt (pc : Nat) (off : Int) (k : Nat → zO) : zO := if 0 ≤ (pc : Int) + off then k ((pc : Int) + off).toNat else none
def zsw (pc : Nat) (d lo hi : Int) (offs : Array Int) (a : zV) (k : Nat → zO) : zO := match zbd a with
  | some (l, u) => if u < lo ∨ hi < l then ztgt pc d k else if l = u ∧ lo ≤ l ∧ l ≤ hi then (match offs[(l - lo).toNat]? with
    | some off => ztgt pc off k
    | none => none) else none
  | none => none
def zlk (pc : Nat) (d : Int) (ps : Array (Int × Int)) (a : zV) (k : Nat → zO) : zO := match a with
  | .inl u => ztgt pc (Op.lookupswitch.offset ps.toList d (zI u).toInt) k
  | _ => none
/-- the first n of the stack, the deepest first -/
noncomputable def ztk (n : Nat) : List zV → List zV → (List zV → List zV → zO) → zO := Nat.rec (motive := fun _ => List zV → List zV → (List zV → List zV → zO) → zO) (fun st acc k => k acc st) (fun _ ih st acc k => match st with
  | a :: r => ih r (a :: acc) k
  | [] => none) n
def zlong1 (a : zV) (k : Nat → zO) : zO := match a with
  | .inr (.inr (.inl w)) => k w
  | _ => none
def zint1 (a : zV) (k : Nat → zO) : zO := match a with
  | .inl u => k u
  | _ => none
noncomputable def zali (G : zG) (npc : Nat) (ls : zLs) (r : List zV) (sz : Nat) (h : zH) (o i : zV) : zO := match o with
  | .inr (.inr (.inr 1)) => (match G.2.1 with
    | some n => zidx n i (fun u => match G.2.2[u]? with
      | some a => zwhen (zisI a) (zgo npc ls (a :: r) h)
      | none => none)
    | none => none)
  | o => zcell sz h o (fun _ c => zwhen (Nat.beq c.1 (nat_lit 16)) (zidx c.2.1 i (fun u => zkde (zdg c.2.2.1 u) (fun a => zgo npc ls (a :: r) h))))
noncomputable def zalen (G : zG) (npc : Nat) (ls : zLs) (r : List zV) (sz : Nat) (h : zH) (o : zV) : zO := match o with
  | .inr (.inr (.inr 1)) => (match G.2.1 with
    | some n => zgo npc ls (zi n :: r) h
    | none => none)
  | o => zcell sz h o (fun _ c => zwhen (Nat.ble (nat_lit 16) c.1) (zgo npc ls (zi c.2.1 :: r) h))
noncomputable def zast (npc : Nat) (ls : zLs) (r : List zV) (h : zH) (q : Nat) (c : zC) (i v : zV) : zO := zidx c.2.1 i (fun u => zset c.2.2.2 v u (fun t => zset h (c.1, c.2.1, c.2.2.1, t) q (fun h' => zgo npc ls r h')))
noncomputable def zist (npc : Nat) (ls : zLs) (r : List zV) (h : zH) (q : Nat) (c : zC) (i v : zV) : zO := zidx c.2.1 i (fun u => zen v (fun n => fN (zsd c.2.2.1 u n) (fun N => zset h (c.1, c.2.1, N, c.2.2.2) q (fun h' => zgo npc ls r h'))))
noncomputable def zbast (npc : Nat) (ls : zLs) (r : List zV) (sz : Nat) (h : zH) (o i v : zV) : zO := zcell sz h o (fun q c =>
  Bool.rec (motive := fun _ => zO)
    (zwhen (Nat.beq c.1 (nat_lit 18)) (zu1 (fun x => x &&& 1) v (fun w => zist npc ls r h q c i w)))
    (zu1 (fun x => x.toInt8.toInt32) v (fun w => zist npc ls r h q c i w))
    (Nat.beq c.1 (nat_lit 17)))
def zcls (k : Nat) : Nat := match k with
  | 20 => 0
  | 21 => 5
  | 22 => 2
  | _ => 99
noncomputable def zaast (npc : Nat) (ls : zLs) (r : List zV) (sz : Nat) (h : zH) (o i v : zV) : zO := zcell sz h o (fun q c => zcell sz h v (fun _ c2 => zwhen (Nat.beq c2.1 (zcls c.1)) (zast npc ls r h q c i v)))
noncomputable def zputf (npc a1 a2 : Nat) (ls : zLs) (r : List zV) (sz : Nat) (h : zH) (o v : zV) : zO := zcell sz h o (fun q c => zwhen (Nat.beq c.1 a1 && zfit (Nat.div a2 (nat_lit 64)) v) (zset c.2.2.2 v (Nat.mod a2 (nat_lit 64)) (fun t => zset h (c.1, c.2.1, c.2.2.1, t) q (fun h' => zgo npc ls r h'))))
noncomputable def znew (npc : Nat) (ls : zLs) (r : List zV) (sz : Nat) (h : zH) (c : zC) : zO := zwhen (Nat.blt sz (nat_lit 1024)) (zset h c sz (fun h' => fN (Nat.succ (Nat.succ sz)) (fun q => some (.inl (npc, ls, zr q :: r, h', nat_lit 1, c.2.1)))))
noncomputable def znewi (npc : Nat) (ls : zLs) (r : List zV) (sz : Nat) (h : zH) (kind : Nat) (n : zV) : zO := zint1 n (fun u => zwhen (Nat.blt u (nat_lit 100000)) (znew npc ls r sz h (kind, u, nat_lit 0, .leaf (zr 0))))
noncomputable def znewa (npc : Nat) (ls : zLs) (r : List zV) (sz : Nat) (h : zH) (kind : Nat) (n : zV) : zO := zint1 n (fun u => zwhen (Nat.blt u (nat_lit 100000)) (znew npc ls r sz h (kind, u, nat_lit 0, zrep (zr 0) (Nat.succ (Nat.log2 u)) 0)))
noncomputable def zmna (npc : Nat) (ls : zLs) (r : List zV) (sz : Nat) (h : zH) (n m : zV) : zO := zint1 n (fun u => zint1 m (fun w => zwhen (Nat.blt u (nat_lit 1000) && Nat.blt w (nat_lit 1000) && Nat.blt (Nat.add sz u) (nat_lit 1024))
  (zfillR u (nat_lit 0) (Nat.add sz (nat_lit 3)) (zrep (zr 0) (Nat.succ (Nat.log2 u)) 0) (fun t => zset h (nat_lit 19, u, nat_lit 0, t) sz (fun h1 => zfillH (nat_lit 16, w, nat_lit 0, .leaf (zr 0)) u (Nat.succ sz) h1 (fun h2 =>
    fN (Nat.succ (Nat.succ sz)) (fun q => some (.inl (npc, ls, zr q :: r, h2, Nat.succ u, Nat.add u (Nat.mul u w))))))))))
noncomputable def zcall (npc a1 a2 : Nat) (st : List zV) (sz : Nat) (h : zH) : zO := ztk (Nat.mod a2 (nat_lit 16)) st [] (fun as rest =>
  Bool.rec (motive := fun _ => zO)
    (match as with
      | o :: _ => zcell sz h o (fun _ c => zwhen (Nat.beq (Nat.succ c.1) (Nat.div a2 (nat_lit 16))) (some (.inr (.inl (a1, as, rest, npc)))))
      | [] => none)
    (some (.inr (.inl (a1, as, rest, npc))))
    (Nat.beq (Nat.div a2 (nat_lit 16)) (nat_lit 0)))
noncomputable def zcallI (npc a1 a2 : Nat) (st : List zV) : zO := ztk (Nat.mod a2 (nat_lit 16)) st [] (fun as rest => match as with
  | o :: _ => zwhen (zisR o) (some (.inr (.inl (a1, as, rest, npc))))
  | [] => none)
noncomputable def zret (p : zV → Bool) (st : List zV) : zO := match st with
  | [a] => zwhen (p a) (some (.inr (.inr (some a))))
  | _ => none
noncomputable def zstep (G : zG) (ins : Instr) (npc a1 a2 pc : Nat) (ls : zLs) (st : List zV) (sz : Nat) (h : zH) : zO := match ins with
  | .aload_n i => zld zisR ls i.val (fun a => zgo npc ls (a :: st) h)
  | .aload i => zld zisR ls i (fun a => zgo npc ls (a :: st) h)
  | .iload_n i => zld zisI ls i.val (fun a => zgo npc ls (a :: st) h)
  | .iload i => zld zisI ls i (fun a => zgo npc ls (a :: st) h)
  | .lload_n i => zld zisL ls i.val (fun a => zgo npc ls (a :: st) h)
  | .lload i => zld zisL ls i (fun a => zgo npc ls (a :: st) h)
  | .istore_n i => z1 st (fun a r => zwhen (zisI a) (zstore ls i.val false a (fun ls' => zgo npc ls' r h)))
  | .istore i => z1 st (fun a r => zwhen (zisI a) (zstore ls i false a (fun ls' => zgo npc ls' r h)))
  | .astore_n i => z1 st (fun a r => zwhen (zisR a) (zstore ls i.val false a (fun ls' => zgo npc ls' r h)))
  | .astore i => z1 st (fun a r => zwhen (zisR a) (zstore ls i false a (fun ls' => zgo npc ls' r h)))
  | .lstore_n i => z1 st (fun a r => zwhen (zisL a) (zstore ls i.val true a (fun ls' => zgo npc ls' r h)))
  | .lstore i => z1 st (fun a r => zwhen (zisL a) (zstore ls i true a (fun ls' => zgo npc ls' r h)))
  | .iinc i n => zld zisI ls i (fun a => zinc a2 a (fun v => zstore ls i false v (fun ls' => zgo npc ls' st h)))
  | .iconst _ => zgo npc ls (zi a1 :: st) h
  | .bipush _ => zgo npc ls (zi a1 :: st) h
  | .sipush _ => zgo npc ls (zi a1 :: st) h
  | .ldc _ => zgo npc ls (zi a1 :: st) h
  | .ldc_w _ => zgo npc ls (zi a1 :: st) h
  | .ldc2_w _ => zgo npc ls (zl a1 :: st) h
  | .lconst _ => zgo npc ls (zl a1 :: st) h
  | .iadd => z2 st (fun a b r => zadd a b (fun v => zgo npc ls (v :: r) h))
  | .isub => z2 st (fun a b r => zsub a b (fun v => zgo npc ls (v :: r) h))
  | .imul => z2 st (fun a b r => zmul a b (fun v => zgo npc ls (v :: r) h))
  | .idiv => z2 st (fun a b r => zdv (· / ·) a b (fun v => zgo npc ls (v :: r) h))
  | .irem => z2 st (fun a b r => zdv (fun x y => x - x / y * y) a b (fun v => zgo npc ls (v :: r) h))
  | .iand => z2 st (fun a b r => zand G a b (fun v => zgo npc ls (v :: r) h))
  | .ior => z2 st (fun a b r => zb2 (· ||| ·) a b (fun v => zgo npc ls (v :: r) h))
  | .ixor => z2 st (fun a b r => zb2 (· ^^^ ·) a b (fun v => zgo npc ls (v :: r) h))
  | .ishl => z2 st (fun a b r => zb2 (fun x y => x <<< (y &&& 31)) a b (fun v => zgo npc ls (v :: r) h))
  | .ishr => z2 st (fun a b r => zb2 (fun x y => x >>> (y &&& 31)) a b (fun v => zgo npc ls (v :: r) h))
  | .iushr => z2 st (fun a b r => zb2 (fun x y => (x.toUInt32 >>> (y.toUInt32 &&& Int32.toUInt32 31)).toInt32) a b (fun v => zgo npc ls (v :: r) h))
  | .ineg => z1 st (fun a r => zu1 (fun x => -x) a (fun v => zgo npc ls (v :: r) h))
  | .i2b => z1 st (fun a r => zu1 (fun x => x.toInt8.toInt32) a (fun v => zgo npc ls (v :: r) h))
  | .i2l => z1 st (fun a r => zint1 a (fun u => zkl (zI u).toInt64 (fun v => zgo npc ls (v :: r) h)))
  | .l2i => z1 st (fun a r => zlong1 a (fun u => zki (zI6 u).toInt32 (fun v => zgo npc ls (v :: r) h)))
  | .ladd => z2 st (fun a b r => zlong1 a (fun u => zlong1 b (fun w => zkl (zI6 u + zI6 w) (fun v => zgo npc ls (v :: r) h))))
  | .lshl => z2 st (fun a b r => zlong1 a (fun u => zint1 b (fun w => zkl (zI6 u <<< ((zI w).toInt64 &&& 63)) (fun v => zgo npc ls (v :: r) h))))
  | .lushr => z2 st (fun a b r => zlong1 a (fun u => zint1 b (fun w => zkl ((zI6 u).toUInt64 >>> ((zI w).toInt64.toUInt64 &&& Int64.toUInt64 63)).toInt64 (fun v => zgo npc ls (v :: r) h))))
  | .lcmp => z2 st (fun a b r => zlong1 a (fun u => zlong1 b (fun w => zki (lg_cmp (zI6 u) (zI6 w)) (fun v => zgo npc ls (v :: r) h))))
  | .dup => z1 st (fun a r => zwhen (zis1 a) (zgo npc ls (a :: a :: r) h))
  | .dup2 => z2 st (fun a b r => zwhen (zis1 a && zis1 b) (zgo npc ls (b :: a :: b :: a :: r) h))
  | .pop => z1 st (fun a r => zwhen (zis1 a) (zgo npc ls r h))
  | .goto _ => zgo a1 ls st h
  | .ifCond c _ => z1 st (fun a r => zbr (zcmp c a (zi 0)) (zgo a1 ls r h) (zgo npc ls r h))
  | .if_icmp c _ => z2 st (fun a b r => zbr (zcmp c a b) (zgo a1 ls r h) (zgo npc ls r h))
  | .tableswitch d lo hi offs => z1 st (fun a r => zsw pc d lo hi offs a (fun t => zgo t ls r h))
  | .lookupswitch d ps => z1 st (fun a r => zlk pc d ps a (fun t => zgo t ls r h))
  | .getfield _ => z1 st (fun a r => zcell sz h a (fun _ c => zwhen (Nat.beq c.1 a1) (zgo npc ls (zget c.2.2.2 a2 :: r) h)))
  | .putfield _ => z2 st (fun o v r => zputf npc a1 a2 ls r sz h o v)
  | .iaload => z2 st (fun o i r => zali G npc ls r sz h o i)
  | .baload => z2 st (fun o i r => zcell sz h o (fun _ c => zwhen (Nat.beq c.1 (nat_lit 17) || Nat.beq c.1 (nat_lit 18)) (zidx c.2.1 i (fun u => zkde (zdg c.2.2.1 u) (fun a => zgo npc ls (a :: r) h)))))
  | .aaload => z2 st (fun o i r => zcell sz h o (fun _ c => zwhen (Nat.ble (nat_lit 19) c.1) (zidx c.2.1 i (fun u => zwhen (zisR (zget c.2.2.2 u)) (zgo npc ls (zget c.2.2.2 u :: r) h)))))
  | .iastore => z3 st (fun o i v r => zcell sz h o (fun q c => zwhen (Nat.beq c.1 (nat_lit 16) && zisI v) (zist npc ls r h q c i v)))
  | .bastore => z3 st (fun o i v r => zbast npc ls r sz h o i v)
  | .aastore => z3 st (fun o i v r => zaast npc ls r sz h o i v)
  | .arraylength => z1 st (fun o r => zalen G npc ls r sz h o)
  | .new _ => znew npc ls st sz h (zini a1)
  | .newarray .int => z1 st (fun n r => znewi npc ls r sz h (nat_lit 16) n)
  | .newarray .byte => z1 st (fun n r => znewi npc ls r sz h (nat_lit 17) n)
  | .newarray .boolean => z1 st (fun n r => znewi npc ls r sz h (nat_lit 18) n)
  | .anewarray _ => z1 st (fun n r => znewa npc ls r sz h a1 n)
  | .multianewarray _ 2 => z2 st (fun n m r => zmna npc ls r sz h n m)
  | .invokevirtual _ => zcall npc a1 a2 st sz h
  | .invokestatic _ => zcall npc a1 a2 st sz h
  | .invokespecial _ => zcallI npc a1 a2 st
  | .ireturn => zret (zfit a1) st
  | .areturn => zret zisR st
  | .lreturn => zret zisL st
  | .return_ => (match st with
    | [] => some (.inr (.inr none))
    | _ => none)
  | _ => none
/-! ===== the same, for the run ===== -/
abbrev zR : Type := Option (Option zV × Nat × Nat × zH)
abbrev zFn : Type := zG → Nat → Nat → Nat → Nat → zLs → List zV → Nat → zH → zO
/-- the same, handing its state on: behind it, at a place that it jumps to, or otherwise -/
abbrev zCn : Type := zG → Nat → Nat → Nat → Nat → zLs → List zV → Nat → zH → (zLs → List zV → zH → zR) → (Nat → zLs → List zV → zH → zR) → (zO → zR) → zR
/-- an entry hands on its place, what does it, the place behind it, what its operands come to -/
abbrev zQ : Type := (Nat → zCn → Nat → Nat → Nat → zR) → zR
noncomputable def so_aload (G : zG) (pc npc a1 a2 : Nat) (ls : zLs) (st : List zV) (sz : Nat) (h : zH) : zO := zld zisR ls a1 (fun a => zgo npc ls (a :: st) h)
noncomputable def so_iload (G : zG) (pc npc a1 a2 : Nat) (ls : zLs) (st : List zV) (sz : Nat) (h : zH) : zO := zld zisI ls a1 (fun a => zgo npc ls (a :: st) h)
noncomputable def so_lload (G : zG) (pc npc a1 a2 : Nat) (ls : zLs) (st : List zV) (sz : Nat) (h : zH) : zO := zld zisL ls a1 (fun a => zgo npc ls (a :: st) h)
noncomputable def so_istore (G : zG) (pc npc a1 a2 : Nat) (ls : zLs) (st : List zV) (sz : Nat) (h : zH) : zO := z1 st (fun a r => zwhen (zisI a) (zstore ls a1 false a (fun ls' => zgo npc ls' r h)))
noncomputable def so_astore (G : zG) (pc npc a1 a2 : Nat) (ls : zLs) (st : List zV) (sz : Nat) (h : zH) : zO := z1 st (fun a r => zwhen (zisR a) (zstore ls a1 false a (fun ls' => zgo npc ls' r h)))
noncomputable def so_lstore (G : zG) (pc npc a1 a2 : Nat) (ls : zLs) (st : List zV) (sz : Nat) (h : zH) : zO := z1 st (fun a r => zwhen (zisL a) (zstore ls a1 true a (fun ls' => zgo npc ls' r h)))
noncomputable def so_iinc (G : zG) (pc npc a1 a2 : Nat) (ls : zLs) (st : List zV) (sz : Nat) (h : zH) : zO := zld zisI ls a1 (fun a => zinc a2 a (fun v => zstore ls a1 false v (fun ls' => zgo npc ls' st h)))
noncomputable def so_iconst (G : zG) (pc npc a1 a2 : Nat) (ls : zLs) (st : List zV) (sz : Nat) (h : zH) : zO := zgo npc ls (zi a1 :: st) h
noncomputable def so_bipush (G : zG) (pc npc a1 a2 : Nat) (ls : zLs) (st : List zV) (sz : Nat) (h : zH) : zO := zgo npc ls (zi a1 :: st) h
noncomputable def so_sipush (G : zG) (pc npc a1 a2 : Nat) (ls : zLs) (st : List zV) (sz : Nat) (h : zH) : zO := zgo npc ls (zi a1 :: st) h
noncomputable def so_ldc (G : zG) (pc npc a1 a2 : Nat) (ls : zLs) (st : List zV) (sz : Nat) (h : zH) : zO := zgo npc ls (zi a1 :: st) h
noncomputable def so_ldc_w (G : zG) (pc npc a1 a2 : Nat) (ls : zLs) (st : List zV) (sz : Nat) (h : zH) : zO := zgo npc ls (zi a1 :: st) h
noncomputable def so_ldc2_w (G : zG) (pc npc a1 a2 : Nat) (ls : zLs) (st : List zV) (sz : Nat) (h : zH) : zO := zgo npc ls (zl a1 :: st) h
noncomputable def so_lconst (G : zG) (pc npc a1 a2 : Nat) (ls : zLs) (st : List zV) (sz : Nat) (h : zH) : zO := zgo npc ls (zl a1 :: st) h
noncomputable def so_iadd (G : zG) (pc npc a1 a2 : Nat) (ls : zLs) (st : List zV) (sz : Nat) (h : zH) : zO := z2 st (fun a b r => zadd a b (fun v => zgo npc ls (v :: r) h))
noncomputable def so_isub (G : zG) (pc npc a1 a2 : Nat) (ls : zLs) (st : List zV) (sz : Nat) (h : zH) : zO := z2 st (fun a b r => zsub a b (fun v => zgo npc ls (v :: r) h))
noncomputable def so_imul (G : zG) (pc npc a1 a2 : Nat) (ls : zLs) (st : List zV) (sz : Nat) (h : zH) : zO := z2 st (fun a b r => zmul a b (fun v => zgo npc ls (v :: r) h))
noncomputable def so_idiv (G : zG) (pc npc a1 a2 : Nat) (ls : zLs) (st : List zV) (sz : Nat) (h : zH) : zO := z2 st (fun a b r => zdv (· / ·) a b (fun v => zgo npc ls (v :: r) h))
noncomputable def so_irem (G : zG) (pc npc a1 a2 : Nat) (ls : zLs) (st : List zV) (sz : Nat) (h : zH) : zO := z2 st (fun a b r => zdv (fun x y => x - x / y * y) a b (fun v => zgo npc ls (v :: r) h))
noncomputable def so_iand (G : zG) (pc npc a1 a2 : Nat) (ls : zLs) (st : List zV) (sz : Nat) (h : zH) : zO := z2 st (fun a b r => zand G a b (fun v => zgo npc ls (v :: r) h))
noncomputable def so_ior (G : zG) (pc npc a1 a2 : Nat) (ls : zLs) (st : List zV) (sz : Nat) (h : zH) : zO := z2 st (fun a b r => zb2 (· ||| ·) a b (fun v => zgo npc ls (v :: r) h))
noncomputable def so_ixor (G : zG) (pc npc a1 a2 : Nat) (ls : zLs) (st : List zV) (sz : Nat) (h : zH) : zO := z2 st (fun a b r => zb2 (· ^^^ ·) a b (fun v => zgo npc ls (v :: r) h))
noncomputable def so_ishl (G : zG) (pc npc a1 a2 : Nat) (ls : zLs) (st : List zV) (sz : Nat) (h : zH) : zO := z2 st (fun a b r => zb2 (fun x y => x <<< (y &&& 31)) a b (fun v => zgo npc ls (v :: r) h))
noncomputable def so_ishr (G : zG) (pc npc a1 a2 : Nat) (ls : zLs) (st : List zV) (sz : Nat) (h : zH) : zO := z2 st (fun a b r => zb2 (fun x y => x >>> (y &&& 31)) a b (fun v => zgo npc ls (v :: r) h))
noncomputable def so_iushr (G : zG) (pc npc a1 a2 : Nat) (ls : zLs) (st : List zV) (sz : Nat) (h : zH) : zO := z2 st (fun a b r => zb2 (fun x y => (x.toUInt32 >>> (y.toUInt32 &&& Int32.toUInt32 31)).toInt32) a b (fun v => zgo npc ls (v :: r) h))
noncomputable def so_ineg (G : zG) (pc npc a1 a2 : Nat) (ls : zLs) (st : List zV) (sz : Nat) (h : zH) : zO := z1 st (fun a r => zu1 (fun x => -x) a (fun v => zgo npc ls (v :: r) h))
noncomputable def so_i2b (G : zG) (pc npc a1 a2 : Nat) (ls : zLs) (st : List zV) (sz : Nat) (h : zH) : zO := z1 st (fun a r => zu1 (fun x => x.toInt8.toInt32) a (fun v => zgo npc ls (v :: r) h))
noncomputable def so_i2l (G : zG) (pc npc a1 a2 : Nat) (ls : zLs) (st : List zV) (sz : Nat) (h : zH) : zO := z1 st (fun a r => zint1 a (fun u => zkl (zI u).toInt64 (fun v => zgo npc ls (v :: r) h)))
noncomputable def so_l2i (G : zG) (pc npc a1 a2 : Nat) (ls : zLs) (st : List zV) (sz : Nat) (h : zH) : zO := z1 st (fun a r => zlong1 a (fun u => zki (zI6 u).toInt32 (fun v => zgo npc ls (v :: r) h)))
noncomputable def so_ladd (G : zG) (pc npc a1 a2 : Nat) (ls : zLs) (st : List zV) (sz : Nat) (h : zH) : zO := z2 st (fun a b r => zlong1 a (fun u => zlong1 b (fun w => zkl (zI6 u + zI6 w) (fun v => zgo npc ls (v :: r) h))))
noncomputable def so_lshl (G : zG) (pc npc a1 a2 : Nat) (ls : zLs) (st : List zV) (sz : Nat) (h : zH) : zO := z2 st (fun a b r => zlong1 a (fun u => zint1 b (fun w => zkl (zI6 u <<< ((zI w).toInt64 &&& 63)) (fun v => zgo npc ls (v :: r) h))))
noncomputable def so_lushr (G : zG) (pc npc a1 a2 : Nat) (ls : zLs) (st : List zV) (sz : Nat) (h : zH) : zO := z2 st (fun a b r => zlong1 a (fun u => zint1 b (fun w => zkl ((zI6 u).toUInt64 >>> ((zI w).toInt64.toUInt64 &&& Int64.toUInt64 63)).toInt64 (fun v => zgo npc ls (v :: r) h))))
noncomputable def so_lcmp (G : zG) (pc npc a1 a2 : Nat) (ls : zLs) (st : List zV) (sz : Nat) (h : zH) : zO := z2 st (fun a b r => zlong1 a (fun u => zlong1 b (fun w => zki (lg_cmp (zI6 u) (zI6 w)) (fun v => zgo npc ls (v :: r) h))))
noncomputable def so_dup (G : zG) (pc npc a1 a2 : Nat) (ls : zLs) (st : List zV) (sz : Nat) (h : zH) : zO := z1 st (fun a r => zwhen (zis1 a) (zgo npc ls (a :: a :: r) h))
noncomputable def so_dup2 (G : zG) (pc npc a1 a2 : Nat) (ls : zLs) (st : List zV) (sz : Nat) (h : zH) : zO := z2 st (fun a b r => zwhen (zis1 a && zis1 b) (zgo npc ls (b :: a :: b :: a :: r) h))
noncomputable def so_pop (G : zG) (pc npc a1 a2 : Nat) (ls : zLs) (st : List zV) (sz : Nat) (h : zH) : zO := z1 st (fun a r => zwhen (zis1 a) (zgo npc ls r h))
noncomputable def so_goto (G : zG) (pc npc a1 a2 : Nat) (ls : zLs) (st : List zV) (sz : Nat) (h : zH) : zO := zgo a1 ls st h
noncomputable def so_ifCond_eq (G : zG) (pc npc a1 a2 : Nat) (ls : zLs) (st : List zV) (sz : Nat) (h : zH) : zO := z1 st (fun a r => zbr (zcmp .eq a (zi 0)) (zgo a1 ls r h) (zgo npc ls r h))
noncomputable def so_ifCond_ne (G : zG) (pc npc a1 a2 : Nat) (ls : zLs) (st : List zV) (sz : Nat) (h : zH) : zO := z1 st (fun a r => zbr (zcmp .ne a (zi 0)) (zgo a1 ls r h) (zgo npc ls r h))
noncomputable def so_ifCond_lt (G : zG) (pc npc a1 a2 : Nat) (ls : zLs) (st : List zV) (sz : Nat) (h : zH) : zO := z1 st (fun a r => zbr (zcmp .lt a (zi 0)) (zgo a1 ls r h) (zgo npc ls r h))
noncomputable def so_ifCond_ge (G : zG) (pc npc a1 a2 : Nat) (ls : zLs) (st : List zV) (sz : Nat) (h : zH) : zO := z1 st (fun a r => zbr (zcmp .ge a (zi 0)) (zgo a1 ls r h) (zgo npc ls r h))
noncomputable def so_ifCond_gt (G : zG) (pc npc a1 a2 : Nat) (ls : zLs) (st : List zV) (sz : Nat) (h : zH) : zO := z1 st (fun a r => zbr (zcmp .gt a (zi 0)) (zgo a1 ls r h) (zgo npc ls r h))
noncomputable def so_ifCond_le (G : zG) (pc npc a1 a2 : Nat) (ls : zLs) (st : List zV) (sz : Nat) (h : zH) : zO := z1 st (fun a r => zbr (zcmp .le a (zi 0)) (zgo a1 ls r h) (zgo npc ls r h))
noncomputable def so_if_icmp_eq (G : zG) (pc npc a1 a2 : Nat) (ls : zLs) (st : List zV) (sz : Nat) (h : zH) : zO := z2 st (fun a b r => zbr (zcmp .eq a b) (zgo a1 ls r h) (zgo npc ls r h))
noncomputable def so_if_icmp_ne (G : zG) (pc npc a1 a2 : Nat) (ls : zLs) (st : List zV) (sz : Nat) (h : zH) : zO := z2 st (fun a b r => zbr (zcmp .ne a b) (zgo a1 ls r h) (zgo npc ls r h))
noncomputable def so_if_icmp_lt (G : zG) (pc npc a1 a2 : Nat) (ls : zLs) (st : List zV) (sz : Nat) (h : zH) : zO := z2 st (fun a b r => zbr (zcmp .lt a b) (zgo a1 ls r h) (zgo npc ls r h))
noncomputable def so_if_icmp_ge (G : zG) (pc npc a1 a2 : Nat) (ls : zLs) (st : List zV) (sz : Nat) (h : zH) : zO := z2 st (fun a b r => zbr (zcmp .ge a b) (zgo a1 ls r h) (zgo npc ls r h))
noncomputable def so_if_icmp_gt (G : zG) (pc npc a1 a2 : Nat) (ls : zLs) (st : List zV) (sz : Nat) (h : zH) : zO := z2 st (fun a b r => zbr (zcmp .gt a b) (zgo a1 ls r h) (zgo npc ls r h))
noncomputable def so_if_icmp_le (G : zG) (pc npc a1 a2 : Nat) (ls : zLs) (st : List zV) (sz : Nat) (h : zH) : zO := z2 st (fun a b r => zbr (zcmp .le a b) (zgo a1 ls r h) (zgo npc ls r h))
noncomputable def so_tableswitch (d lo hi : Int) (offs : Array Int) (G : zG) (pc npc a1 a2 : Nat) (ls : zLs) (st : List zV) (sz : Nat) (h : zH) : zO := z1 st (fun a r => zsw pc d lo hi offs a (fun t => zgo t ls r h))
noncomputable def so_lookupswitch (d : Int) (ps : Array (Int × Int)) (G : zG) (pc npc a1 a2 : Nat) (ls : zLs) (st : List zV) (sz : Nat) (h : zH) : zO := z1 st (fun a r => zlk pc d ps a (fun t => zgo t ls r h))
noncomputable def so_getfield (G : zG) (pc npc a1 a2 : Nat) (ls : zLs) (st : List zV) (sz : Nat) (h : zH) : zO := z1 st (fun a r => zcell sz h a (fun _ c => zwhen (Nat.beq c.1 a1) (zgo npc ls (zget c.2.2.2 a2 :: r) h)))
noncomputable def so_putfield (G : zG) (pc npc a1 a2 : Nat) (ls : zLs) (st : List zV) (sz : Nat) (h : zH) : zO := z2 st (fun o v r => zputf npc a1 a2 ls r sz h o v)
noncomputable def so_iaload (G : zG) (pc npc a1 a2 : Nat) (ls : zLs) (st : List zV) (sz : Nat) (h : zH) : zO := z2 st (fun o i r => zali G npc ls r sz h o i)
noncomputable def so_baload (G : zG) (pc npc a1 a2 : Nat) (ls : zLs) (st : List zV) (sz : Nat) (h : zH) : zO := z2 st (fun o i r => zcell sz h o (fun _ c => zwhen (Nat.beq c.1 (nat_lit 17) || Nat.beq c.1 (nat_lit 18)) (zidx c.2.1 i (fun u => zkde (zdg c.2.2.1 u) (fun a => zgo npc ls (a :: r) h)))))
noncomputable def so_aaload (G : zG) (pc npc a1 a2 : Nat) (ls : zLs) (st : List zV) (sz : Nat) (h : zH) : zO := z2 st (fun o i r => zcell sz h o (fun _ c => zwhen (Nat.ble (nat_lit 19) c.1) (zidx c.2.1 i (fun u => zwhen (zisR (zget c.2.2.2 u)) (zgo npc ls (zget c.2.2.2 u :: r) h)))))
noncomputable def so_iastore (G : zG) (pc npc a1 a2 : Nat) (ls : zLs) (st : List zV) (sz : Nat) (h : zH) : zO := z3 st (fun o i v r => zcell sz h o (fun q c => zwhen (Nat.beq c.1 (nat_lit 16) && zisI v) (zist npc ls r h q c i v)))
noncomputable def so_bastore (G : zG) (pc npc a1 a2 : Nat) (ls : zLs) (st : List zV) (sz : Nat) (h : zH) : zO := z3 st (fun o i v r => zbast npc ls r sz h o i v)
noncomputable def so_aastore (G : zG) (pc npc a1 a2 : Nat) (ls : zLs) (st : List zV) (sz : Nat) (h : zH) : zO := z3 st (fun o i v r => zaast npc ls r sz h o i v)
noncomputable def so_arraylength (G : zG) (pc npc a1 a2 : Nat) (ls : zLs) (st : List zV) (sz : Nat) (h : zH) : zO := z1 st (fun o r => zalen G npc ls r sz h o)
noncomputable def so_new (G : zG) (pc npc a1 a2 : Nat) (ls : zLs) (st : List zV) (sz : Nat) (h : zH) : zO := znew npc ls st sz h (zini a1)
noncomputable def so_newarray_int (G : zG) (pc npc a1 a2 : Nat) (ls : zLs) (st : List zV) (sz : Nat) (h : zH) : zO := z1 st (fun n r => znewi npc ls r sz h (nat_lit 16) n)
noncomputable def so_newarray_byte (G : zG) (pc npc a1 a2 : Nat) (ls : zLs) (st : List zV) (sz : Nat) (h : zH) : zO := z1 st (fun n r => znewi npc ls r sz h (nat_lit 17) n)
noncomputable def so_newarray_boolean (G : zG) (pc npc a1 a2 : Nat) (ls : zLs) (st : List zV) (sz : Nat) (h : zH) : zO := z1 st (fun n r => znewi npc ls r sz h (nat_lit 18) n)
noncomputable def so_anewarray (G : zG) (pc npc a1 a2 : Nat) (ls : zLs) (st : List zV) (sz : Nat) (h : zH) : zO := z1 st (fun n r => znewa npc ls r sz h a1 n)
noncomputable def so_multianewarray (G : zG) (pc npc a1 a2 : Nat) (ls : zLs) (st : List zV) (sz : Nat) (h : zH) : zO := z2 st (fun n m r => zmna npc ls r sz h n m)
noncomputable def so_invokevirtual (G : zG) (pc npc a1 a2 : Nat) (ls : zLs) (st : List zV) (sz : Nat) (h : zH) : zO := zcall npc a1 a2 st sz h
noncomputable def so_invokestatic (G : zG) (pc npc a1 a2 : Nat) (ls : zLs) (st : List zV) (sz : Nat) (h : zH) : zO := zcall npc a1 a2 st sz h
noncomputable def so_invokespecial (G : zG) (pc npc a1 a2 : Nat) (ls : zLs) (st : List zV) (sz : Nat) (h : zH) : zO := zcallI npc a1 a2 st
noncomputable def so_ireturn (G : zG) (pc npc a1 a2 : Nat) (ls : zLs) (st : List zV) (sz : Nat) (h : zH) : zO := zret (zfit a1) st
noncomputable def so_areturn (G : zG) (pc npc a1 a2 : Nat) (ls : zLs) (st : List zV) (sz : Nat) (h : zH) : zO := zret zisR st
noncomputable def so_lreturn (G : zG) (pc npc a1 a2 : Nat) (ls : zLs) (st : List zV) (sz : Nat) (h : zH) : zO := zret zisL st
noncomputable def so_return_ (G : zG) (pc npc a1 a2 : Nat) (ls : zLs) (st : List zV) (sz : Nat) (h : zH) : zO := (match st with
    | [] => some (.inr (.inr none))
    | _ => none)
noncomputable def so_none (G : zG) (pc npc a1 a2 : Nat) (ls : zLs) (st : List zV) (sz : Nat) (h : zH) : zO := none
/-- what does an instruction -/
noncomputable def zdisp (ins : Instr) : zFn := Instr.rec (motive := fun _ => zFn) so_aaload so_aastore so_none (fun _ => so_aload) (fun _ => so_aload) (fun _ => so_anewarray) so_areturn so_arraylength (fun _ => so_astore) (fun _ => so_astore) so_none so_baload so_bastore (fun _ => so_bipush) so_none so_none (fun _ => so_none) so_none so_none so_none so_none so_none so_none (fun _ => so_none) (fun _ => so_none) so_none (fun _ => so_none) (fun _ => so_none) so_none so_none so_none so_none (fun _ => so_none) (fun _ => so_none) so_none so_dup so_none so_none so_dup2 so_none so_none so_none so_none so_none so_none so_none so_none (fun _ => so_none) (fun _ => so_none) so_none (fun _ => so_none) (fun _ => so_none) so_none so_none so_none so_none (fun _ => so_none) (fun _ => so_none) so_none (fun _ => so_getfield) (fun _ => so_none) (fun _ => so_goto) (fun _ => so_none) so_i2b so_none so_none so_none so_i2l so_none so_iadd so_iaload so_iand so_iastore (fun _ => so_iconst) so_idiv (fun _ _ => so_none) (fun c _ => Jvm.ClassFile.Cond.rec (motive := fun _ => zFn) so_if_icmp_eq so_if_icmp_ne so_if_icmp_lt so_if_icmp_ge so_if_icmp_gt so_if_icmp_le c) (fun c _ => Jvm.ClassFile.Cond.rec (motive := fun _ => zFn) so_ifCond_eq so_ifCond_ne so_ifCond_lt so_ifCond_ge so_ifCond_gt so_ifCond_le c) (fun _ => so_none) (fun _ => so_none) (fun _ _ => so_iinc) (fun _ => so_iload) (fun _ => so_iload) so_imul so_ineg (fun _ => so_none) (fun _ => so_none) (fun _ _ => so_none) (fun _ => so_invokespecial) (fun _ => so_invokestatic) (fun _ => so_invokevirtual) so_ior so_irem so_ireturn so_ishl so_ishr (fun _ => so_istore) (fun _ => so_istore) so_isub so_iushr so_ixor (fun _ => so_none) (fun _ => so_none) so_none so_none so_l2i so_ladd so_none so_none so_none so_lcmp (fun _ => so_lconst) (fun _ => so_ldc) (fun _ => so_ldc_w) (fun _ => so_ldc2_w) so_none (fun _ => so_lload) (fun _ => so_lload) so_none so_none so_lookupswitch so_none so_none so_lreturn so_lshl so_none (fun _ => so_lstore) (fun _ => so_lstore) so_none so_lushr so_none so_none so_none (fun _ k => Bool.rec (motive := fun _ => zFn) so_none so_multianewarray (Nat.beq k 2)) (fun _ => so_new) (fun t => ArrayType.rec (motive := fun _ => zFn) so_newarray_boolean so_none so_none so_none so_newarray_byte so_none so_newarray_int so_none t) so_none so_pop so_none (fun _ => so_putfield) (fun _ => so_none) (fun _ => so_none) so_return_ so_none so_none (fun _ => so_sipush) so_none so_tableswitch ins
/-! ===== the quick ones ===== -/
noncomputable def yfind (ls : zLs) (i : Nat) (k : zV → zR) : zR := List.rec (motive := fun _ => zR) none (fun q _ ih => Prod.rec (motive := fun _ => zR) (fun j a => Bool.rec (motive := fun _ => zR) ih (k a) (Nat.beq j i)) q) ls
noncomputable def yI (a : zV) (k : zR) : zR := Sum.rec (motive := fun _ => zR) (fun _ => k) (fun x => Sum.rec (motive := fun _ => zR) (fun _ => k) (fun _ => none) x) a
noncomputable def yR (a : zV) (k : zR) : zR := Sum.rec (motive := fun _ => zR) (fun _ => none) (fun x => Sum.rec (motive := fun _ => zR) (fun _ => none) (fun x => Sum.rec (motive := fun _ => zR) (fun _ => none) (fun r => Nat.rec (motive := fun _ => zR) none (fun _ _ => k) r) x) x) a
noncomputable def y1 (st : List zV) (k : zV → List zV → zR) : zR := List.rec (motive := fun _ => zR) none (fun a r _ => k a r) st
noncomputable def y2 (st : List zV) (k : zV → zV → List zV → zR) : zR := List.rec (motive := fun _ => zR) none (fun b t _ => List.rec (motive := fun _ => zR) none (fun a r _ => k a b r) t) st
noncomputable def ycmp (f : Nat → Nat → Bool) (a b : zV) (t e s : zR) : zR := Sum.rec (motive := fun _ => zR) (fun x => Sum.rec (motive := fun _ => zR) (fun y => Bool.rec (motive := fun _ => zR) e t (f (zsu x) (zsu y))) (fun _ => s) b) (fun _ => s) a
noncomputable def ycell (sz : Nat) (h : zH) (a : zV) (s : zR) (k : zC → zR) : zR := Sum.rec (motive := fun _ => zR) (fun _ => none) (fun x => Sum.rec (motive := fun _ => zR) (fun _ => none) (fun x => Sum.rec (motive := fun _ => zR) (fun _ => none) (fun r => Nat.rec (motive := fun _ => zR) none (fun r _ => Nat.rec (motive := fun _ => zR) s (fun i _ => Bool.rec (motive := fun _ => zR) none (k (zget h i)) (Nat.blt i sz)) r) r) x) x) a
noncomputable def ykde (n : Nat) (k : zV → zR) : zR := fN n (fun m => Bool.rec (motive := fun _ => zR) (k (zdeA m)) (k (zi m)) (Nat.blt m (nat_lit 4294967296)))
noncomputable def yo_aaload (G : zG) (pc npc a1 a2 : Nat) (ls : zLs) (st : List zV) (sz : Nat) (h : zH) (nx : zLs → List zV → zH → zR) (jp : Nat → zLs → List zV → zH → zR) (ot : zO → zR) : zR := ot (so_aaload G pc npc a1 a2 ls st sz h)
noncomputable def yo_aastore (G : zG) (pc npc a1 a2 : Nat) (ls : zLs) (st : List zV) (sz : Nat) (h : zH) (nx : zLs → List zV → zH → zR) (jp : Nat → zLs → List zV → zH → zR) (ot : zO → zR) : zR := ot (so_aastore G pc npc a1 a2 ls st sz h)
noncomputable def yo_aload (G : zG) (pc npc a1 a2 : Nat) (ls : zLs) (st : List zV) (sz : Nat) (h : zH) (nx : zLs → List zV → zH → zR) (jp : Nat → zLs → List zV → zH → zR) (ot : zO → zR) : zR := yfind ls a1 (fun a => yR a (nx ls (a :: st) h))
noncomputable def yo_anewarray (G : zG) (pc npc a1 a2 : Nat) (ls : zLs) (st : List zV) (sz : Nat) (h : zH) (nx : zLs → List zV → zH → zR) (jp : Nat → zLs → List zV → zH → zR) (ot : zO → zR) : zR := ot (so_anewarray G pc npc a1 a2 ls st sz h)
noncomputable def yo_areturn (G : zG) (pc npc a1 a2 : Nat) (ls : zLs) (st : List zV) (sz : Nat) (h : zH) (nx : zLs → List zV → zH → zR) (jp : Nat → zLs → List zV → zH → zR) (ot : zO → zR) : zR := ot (so_areturn G pc npc a1 a2 ls st sz h)
noncomputable def yo_arraylength (G : zG) (pc npc a1 a2 : Nat) (ls : zLs) (st : List zV) (sz : Nat) (h : zH) (nx : zLs → List zV → zH → zR) (jp : Nat → zLs → List zV → zH → zR) (ot : zO → zR) : zR := ot (so_arraylength G pc npc a1 a2 ls st sz h)
noncomputable def yo_astore (G : zG) (pc npc a1 a2 : Nat) (ls : zLs) (st : List zV) (sz : Nat) (h : zH) (nx : zLs → List zV → zH → zR) (jp : Nat → zLs → List zV → zH → zR) (ot : zO → zR) : zR := ot (so_astore G pc npc a1 a2 ls st sz h)
noncomputable def yo_baload (G : zG) (pc npc a1 a2 : Nat) (ls : zLs) (st : List zV) (sz : Nat) (h : zH) (nx : zLs → List zV → zH → zR) (jp : Nat → zLs → List zV → zH → zR) (ot : zO → zR) : zR := ot (so_baload G pc npc a1 a2 ls st sz h)
noncomputable def yo_bastore (G : zG) (pc npc a1 a2 : Nat) (ls : zLs) (st : List zV) (sz : Nat) (h : zH) (nx : zLs → List zV → zH → zR) (jp : Nat → zLs → List zV → zH → zR) (ot : zO → zR) : zR := ot (so_bastore G pc npc a1 a2 ls st sz h)
noncomputable def yo_bipush (G : zG) (pc npc a1 a2 : Nat) (ls : zLs) (st : List zV) (sz : Nat) (h : zH) (nx : zLs → List zV → zH → zR) (jp : Nat → zLs → List zV → zH → zR) (ot : zO → zR) : zR := nx ls (zi a1 :: st) h
noncomputable def yo_dup (G : zG) (pc npc a1 a2 : Nat) (ls : zLs) (st : List zV) (sz : Nat) (h : zH) (nx : zLs → List zV → zH → zR) (jp : Nat → zLs → List zV → zH → zR) (ot : zO → zR) : zR := ot (so_dup G pc npc a1 a2 ls st sz h)
noncomputable def yo_dup2 (G : zG) (pc npc a1 a2 : Nat) (ls : zLs) (st : List zV) (sz : Nat) (h : zH) (nx : zLs → List zV → zH → zR) (jp : Nat → zLs → List zV → zH → zR) (ot : zO → zR) : zR := ot (so_dup2 G pc npc a1 a2 ls st sz h)
noncomputable def yo_getfield (G : zG) (pc npc a1 a2 : Nat) (ls : zLs) (st : List zV) (sz : Nat) (h : zH) (nx : zLs → List zV → zH → zR) (jp : Nat → zLs → List zV → zH → zR) (ot : zO → zR) : zR := y1 st (fun a r => ycell sz h a none (fun c => Bool.rec (motive := fun _ => zR) none (nx ls (zget c.2.2.2 a2 :: r) h) (Nat.beq c.1 a1)))
noncomputable def yo_goto (G : zG) (pc npc a1 a2 : Nat) (ls : zLs) (st : List zV) (sz : Nat) (h : zH) (nx : zLs → List zV → zH → zR) (jp : Nat → zLs → List zV → zH → zR) (ot : zO → zR) : zR := jp a1 ls st h
noncomputable def yo_i2b (G : zG) (pc npc a1 a2 : Nat) (ls : zLs) (st : List zV) (sz : Nat) (h : zH) (nx : zLs → List zV → zH → zR) (jp : Nat → zLs → List zV → zH → zR) (ot : zO → zR) : zR := ot (so_i2b G pc npc a1 a2 ls st sz h)
noncomputable def yo_i2l (G : zG) (pc npc a1 a2 : Nat) (ls : zLs) (st : List zV) (sz : Nat) (h : zH) (nx : zLs → List zV → zH → zR) (jp : Nat → zLs → List zV → zH → zR) (ot : zO → zR) : zR := ot (so_i2l G pc npc a1 a2 ls st sz h)
noncomputable def yo_iadd (G : zG) (pc npc a1 a2 : Nat) (ls : zLs) (st : List zV) (sz : Nat) (h : zH) (nx : zLs → List zV → zH → zR) (jp : Nat → zLs → List zV → zH → zR) (ot : zO → zR) : zR := ot (so_iadd G pc npc a1 a2 ls st sz h)
noncomputable def yo_iaload (G : zG) (pc npc a1 a2 : Nat) (ls : zLs) (st : List zV) (sz : Nat) (h : zH) (nx : zLs → List zV → zH → zR) (jp : Nat → zLs → List zV → zH → zR) (ot : zO → zR) : zR := y2 st (fun o i r => ycell sz h o (ot (so_iaload G pc npc a1 a2 ls st sz h)) (fun c => Bool.rec (motive := fun _ => zR) none (Sum.rec (motive := fun _ => zR) (fun u => Bool.rec (motive := fun _ => zR) none (ykde (zdg c.2.2.1 u) (fun a => nx ls (a :: r) h)) (Nat.blt u c.2.1)) (fun _ => none) i) (Nat.beq c.1 (nat_lit 16))))
noncomputable def yo_iand (G : zG) (pc npc a1 a2 : Nat) (ls : zLs) (st : List zV) (sz : Nat) (h : zH) (nx : zLs → List zV → zH → zR) (jp : Nat → zLs → List zV → zH → zR) (ot : zO → zR) : zR := ot (so_iand G pc npc a1 a2 ls st sz h)
noncomputable def yo_iastore (G : zG) (pc npc a1 a2 : Nat) (ls : zLs) (st : List zV) (sz : Nat) (h : zH) (nx : zLs → List zV → zH → zR) (jp : Nat → zLs → List zV → zH → zR) (ot : zO → zR) : zR := ot (so_iastore G pc npc a1 a2 ls st sz h)
noncomputable def yo_iconst (G : zG) (pc npc a1 a2 : Nat) (ls : zLs) (st : List zV) (sz : Nat) (h : zH) (nx : zLs → List zV → zH → zR) (jp : Nat → zLs → List zV → zH → zR) (ot : zO → zR) : zR := nx ls (zi a1 :: st) h
noncomputable def yo_idiv (G : zG) (pc npc a1 a2 : Nat) (ls : zLs) (st : List zV) (sz : Nat) (h : zH) (nx : zLs → List zV → zH → zR) (jp : Nat → zLs → List zV → zH → zR) (ot : zO → zR) : zR := ot (so_idiv G pc npc a1 a2 ls st sz h)
noncomputable def yo_ifCond_eq (G : zG) (pc npc a1 a2 : Nat) (ls : zLs) (st : List zV) (sz : Nat) (h : zH) (nx : zLs → List zV → zH → zR) (jp : Nat → zLs → List zV → zH → zR) (ot : zO → zR) : zR := y1 st (fun a r => ycmp Nat.beq a (zi (nat_lit 0)) (jp a1 ls r h) (nx ls r h) (ot (so_ifCond_eq G pc npc a1 a2 ls st sz h)))
noncomputable def yo_ifCond_ge (G : zG) (pc npc a1 a2 : Nat) (ls : zLs) (st : List zV) (sz : Nat) (h : zH) (nx : zLs → List zV → zH → zR) (jp : Nat → zLs → List zV → zH → zR) (ot : zO → zR) : zR := y1 st (fun a r => ycmp (fun p q => Nat.ble q p) a (zi (nat_lit 0)) (jp a1 ls r h) (nx ls r h) (ot (so_ifCond_ge G pc npc a1 a2 ls st sz h)))
noncomputable def yo_ifCond_gt (G : zG) (pc npc a1 a2 : Nat) (ls : zLs) (st : List zV) (sz : Nat) (h : zH) (nx : zLs → List zV → zH → zR) (jp : Nat → zLs → List zV → zH → zR) (ot : zO → zR) : zR := y1 st (fun a r => ycmp (fun p q => Nat.blt q p) a (zi (nat_lit 0)) (jp a1 ls r h) (nx ls r h) (ot (so_ifCond_gt G pc npc a1 a2 ls st sz h)))
noncomputable def yo_ifCond_le (G : zG) (pc npc a1 a2 : Nat) (ls : zLs) (st : List zV) (sz : Nat) (h : zH) (nx : zLs → List zV → zH → zR) (jp : Nat → zLs → List zV → zH → zR) (ot : zO → zR) : zR := y1 st (fun a r => ycmp Nat.ble a (zi (nat_lit 0)) (jp a1 ls r h) (nx ls r h) (ot (so_ifCond_le G pc npc a1 a2 ls st sz h)))
noncomputable def yo_ifCond_lt (G : zG) (pc npc a1 a2 : Nat) (ls : zLs) (st : List zV) (sz : Nat) (h : zH) (nx : zLs → List zV → zH → zR) (jp : Nat → zLs → List zV → zH → zR) (ot : zO → zR) : zR := y1 st (fun a r => ycmp Nat.blt a (zi (nat_lit 0)) (jp a1 ls r h) (nx ls r h) (ot (so_ifCond_lt G pc npc a1 a2 ls st sz h)))
noncomputable def yo_ifCond_ne (G : zG) (pc npc a1 a2 : Nat) (ls : zLs) (st : List zV) (sz : Nat) (h : zH) (nx : zLs → List zV → zH → zR) (jp : Nat → zLs → List zV → zH → zR) (ot : zO → zR) : zR := y1 st (fun a r => ycmp (fun p q => Bool.rec (motive := fun _ => Bool) true false (Nat.beq p q)) a (zi (nat_lit 0)) (jp a1 ls r h) (nx ls r h) (ot (so_ifCond_ne G pc npc a1 a2 ls st sz h)))
noncomputable def yo_if_icmp_eq (G : zG) (pc npc a1 a2 : Nat) (ls : zLs) (st : List zV) (sz : Nat) (h : zH) (nx : zLs → List zV → zH → zR) (jp : Nat → zLs → List zV → zH → zR) (ot : zO → zR) : zR := y2 st (fun a b r => ycmp Nat.beq a b (jp a1 ls r h) (nx ls r h) (ot (so_if_icmp_eq G pc npc a1 a2 ls st sz h)))
noncomputable def yo_if_icmp_ge (G : zG) (pc npc a1 a2 : Nat) (ls : zLs) (st : List zV) (sz : Nat) (h : zH) (nx : zLs → List zV → zH → zR) (jp : Nat → zLs → List zV → zH → zR) (ot : zO → zR) : zR := y2 st (fun a b r => ycmp (fun p q => Nat.ble q p) a b (jp a1 ls r h) (nx ls r h) (ot (so_if_icmp_ge G pc npc a1 a2 ls st sz h)))
noncomputable def yo_if_icmp_gt (G : zG) (pc npc a1 a2 : Nat) (ls : zLs) (st : List zV) (sz : Nat) (h : zH) (nx : zLs → List zV → zH → zR) (jp : Nat → zLs → List zV → zH → zR) (ot : zO → zR) : zR := y2 st (fun a b r => ycmp (fun p q => Nat.blt q p) a b (jp a1 ls r h) (nx ls r h) (ot (so_if_icmp_gt G pc npc a1 a2 ls st sz h)))
noncomputable def yo_if_icmp_le (G : zG) (pc npc a1 a2 : Nat) (ls : zLs) (st : List zV) (sz : Nat) (h : zH) (nx : zLs → List zV → zH → zR) (jp : Nat → zLs → List zV → zH → zR) (ot : zO → zR) : zR := y2 st (fun a b r => ycmp Nat.ble a b (jp a1 ls r h) (nx ls r h) (ot (so_if_icmp_le G pc npc a1 a2 ls st sz h)))
noncomputable def yo_if_icmp_lt (G : zG) (pc npc a1 a2 : Nat) (ls : zLs) (st : List zV) (sz : Nat) (h : zH) (nx : zLs → List zV → zH → zR) (jp : Nat → zLs → List zV → zH → zR) (ot : zO → zR) : zR := y2 st (fun a b r => ycmp Nat.blt a b (jp a1 ls r h) (nx ls r h) (ot (so_if_icmp_lt G pc npc a1 a2 ls st sz h)))
noncomputable def yo_if_icmp_ne (G : zG) (pc npc a1 a2 : Nat) (ls : zLs) (st : List zV) (sz : Nat) (h : zH) (nx : zLs → List zV → zH → zR) (jp : Nat → zLs → List zV → zH → zR) (ot : zO → zR) : zR := y2 st (fun a b r => ycmp (fun p q => Bool.rec (motive := fun _ => Bool) true false (Nat.beq p q)) a b (jp a1 ls r h) (nx ls r h) (ot (so_if_icmp_ne G pc npc a1 a2 ls st sz h)))
noncomputable def yo_iinc (G : zG) (pc npc a1 a2 : Nat) (ls : zLs) (st : List zV) (sz : Nat) (h : zH) (nx : zLs → List zV → zH → zR) (jp : Nat → zLs → List zV → zH → zR) (ot : zO → zR) : zR := yfind ls a1 (fun a => Sum.rec (motive := fun _ => zR) (fun x => fN (Nat.mod (Nat.add x a2) (nat_lit 4294967296)) (fun u => zrm a1 false ls (fun t => nx ((a1, zi u) :: t) st h))) (fun _ => ot (so_iinc G pc npc a1 a2 ls st sz h)) a)
noncomputable def yo_iload (G : zG) (pc npc a1 a2 : Nat) (ls : zLs) (st : List zV) (sz : Nat) (h : zH) (nx : zLs → List zV → zH → zR) (jp : Nat → zLs → List zV → zH → zR) (ot : zO → zR) : zR := yfind ls a1 (fun a => yI a (nx ls (a :: st) h))
noncomputable def yo_imul (G : zG) (pc npc a1 a2 : Nat) (ls : zLs) (st : List zV) (sz : Nat) (h : zH) (nx : zLs → List zV → zH → zR) (jp : Nat → zLs → List zV → zH → zR) (ot : zO → zR) : zR := ot (so_imul G pc npc a1 a2 ls st sz h)
noncomputable def yo_ineg (G : zG) (pc npc a1 a2 : Nat) (ls : zLs) (st : List zV) (sz : Nat) (h : zH) (nx : zLs → List zV → zH → zR) (jp : Nat → zLs → List zV → zH → zR) (ot : zO → zR) : zR := ot (so_ineg G pc npc a1 a2 ls st sz h)
noncomputable def yo_invokespecial (G : zG) (pc npc a1 a2 : Nat) (ls : zLs) (st : List zV) (sz : Nat) (h : zH) (nx : zLs → List zV → zH → zR) (jp : Nat → zLs → List zV → zH → zR) (ot : zO → zR) : zR := ot (so_invokespecial G pc npc a1 a2 ls st sz h)
noncomputable def yo_invokestatic (G : zG) (pc npc a1 a2 : Nat) (ls : zLs) (st : List zV) (sz : Nat) (h : zH) (nx : zLs → List zV → zH → zR) (jp : Nat → zLs → List zV → zH → zR) (ot : zO → zR) : zR := ot (so_invokestatic G pc npc a1 a2 ls st sz h)
noncomputable def yo_invokevirtual (G : zG) (pc npc a1 a2 : Nat) (ls : zLs) (st : List zV) (sz : Nat) (h : zH) (nx : zLs → List zV → zH → zR) (jp : Nat → zLs → List zV → zH → zR) (ot : zO → zR) : zR := ot (so_invokevirtual G pc npc a1 a2 ls st sz h)
noncomputable def yo_ior (G : zG) (pc npc a1 a2 : Nat) (ls : zLs) (st : List zV) (sz : Nat) (h : zH) (nx : zLs → List zV → zH → zR) (jp : Nat → zLs → List zV → zH → zR) (ot : zO → zR) : zR := ot (so_ior G pc npc a1 a2 ls st sz h)
noncomputable def yo_irem (G : zG) (pc npc a1 a2 : Nat) (ls : zLs) (st : List zV) (sz : Nat) (h : zH) (nx : zLs → List zV → zH → zR) (jp : Nat → zLs → List zV → zH → zR) (ot : zO → zR) : zR := ot (so_irem G pc npc a1 a2 ls st sz h)
noncomputable def yo_ireturn (G : zG) (pc npc a1 a2 : Nat) (ls : zLs) (st : List zV) (sz : Nat) (h : zH) (nx : zLs → List zV → zH → zR) (jp : Nat → zLs → List zV → zH → zR) (ot : zO → zR) : zR := ot (so_ireturn G pc npc a1 a2 ls st sz h)
noncomputable def yo_ishl (G : zG) (pc npc a1 a2 : Nat) (ls : zLs) (st : List zV) (sz : Nat) (h : zH) (nx : zLs → List zV → zH → zR) (jp : Nat → zLs → List zV → zH → zR) (ot : zO → zR) : zR := ot (so_ishl G pc npc a1 a2 ls st sz h)
noncomputable def yo_ishr (G : zG) (pc npc a1 a2 : Nat) (ls : zLs) (st : List zV) (sz : Nat) (h : zH) (nx : zLs → List zV → zH → zR) (jp : Nat → zLs → List zV → zH → zR) (ot : zO → zR) : zR := ot (so_ishr G pc npc a1 a2 ls st sz h)
noncomputable def yo_istore (G : zG) (pc npc a1 a2 : Nat) (ls : zLs) (st : List zV) (sz : Nat) (h : zH) (nx : zLs → List zV → zH → zR) (jp : Nat → zLs → List zV → zH → zR) (ot : zO → zR) : zR := y1 st (fun a r => yI a (zrm a1 false ls (fun t => nx ((a1, a) :: t) r h)))
noncomputable def yo_isub (G : zG) (pc npc a1 a2 : Nat) (ls : zLs) (st : List zV) (sz : Nat) (h : zH) (nx : zLs → List zV → zH → zR) (jp : Nat → zLs → List zV → zH → zR) (ot : zO → zR) : zR := ot (so_isub G pc npc a1 a2 ls st sz h)
noncomputable def yo_iushr (G : zG) (pc npc a1 a2 : Nat) (ls : zLs) (st : List zV) (sz : Nat) (h : zH) (nx : zLs → List zV → zH → zR) (jp : Nat → zLs → List zV → zH → zR) (ot : zO → zR) : zR := ot (so_iushr G pc npc a1 a2 ls st sz h)
noncomputable def yo_ixor (G : zG) (pc npc a1 a2 : Nat) (ls : zLs) (st : List zV) (sz : Nat) (h : zH) (nx : zLs → List zV → zH → zR) (jp : Nat → zLs → List zV → zH → zR) (ot : zO → zR) : zR := ot (so_ixor G pc npc a1 a2 ls st sz h)
noncomputable def yo_l2i (G : zG) (pc npc a1 a2 : Nat) (ls : zLs) (st : List zV) (sz : Nat) (h : zH) (nx : zLs → List zV → zH → zR) (jp : Nat → zLs → List zV → zH → zR) (ot : zO → zR) : zR := ot (so_l2i G pc npc a1 a2 ls st sz h)
noncomputable def yo_ladd (G : zG) (pc npc a1 a2 : Nat) (ls : zLs) (st : List zV) (sz : Nat) (h : zH) (nx : zLs → List zV → zH → zR) (jp : Nat → zLs → List zV → zH → zR) (ot : zO → zR) : zR := ot (so_ladd G pc npc a1 a2 ls st sz h)
noncomputable def yo_lcmp (G : zG) (pc npc a1 a2 : Nat) (ls : zLs) (st : List zV) (sz : Nat) (h : zH) (nx : zLs → List zV → zH → zR) (jp : Nat → zLs → List zV → zH → zR) (ot : zO → zR) : zR := ot (so_lcmp G pc npc a1 a2 ls st sz h)
noncomputable def yo_lconst (G : zG) (pc npc a1 a2 : Nat) (ls : zLs) (st : List zV) (sz : Nat) (h : zH) (nx : zLs → List zV → zH → zR) (jp : Nat → zLs → List zV → zH → zR) (ot : zO → zR) : zR := ot (so_lconst G pc npc a1 a2 ls st sz h)
noncomputable def yo_ldc (G : zG) (pc npc a1 a2 : Nat) (ls : zLs) (st : List zV) (sz : Nat) (h : zH) (nx : zLs → List zV → zH → zR) (jp : Nat → zLs → List zV → zH → zR) (ot : zO → zR) : zR := ot (so_ldc G pc npc a1 a2 ls st sz h)
noncomputable def yo_ldc2_w (G : zG) (pc npc a1 a2 : Nat) (ls : zLs) (st : List zV) (sz : Nat) (h : zH) (nx : zLs → List zV → zH → zR) (jp : Nat → zLs → List zV → zH → zR) (ot : zO → zR) : zR := ot (so_ldc2_w G pc npc a1 a2 ls st sz h)
noncomputable def yo_ldc_w (G : zG) (pc npc a1 a2 : Nat) (ls : zLs) (st : List zV) (sz : Nat) (h : zH) (nx : zLs → List zV → zH → zR) (jp : Nat → zLs → List zV → zH → zR) (ot : zO → zR) : zR := ot (so_ldc_w G pc npc a1 a2 ls st sz h)
noncomputable def yo_lload (G : zG) (pc npc a1 a2 : Nat) (ls : zLs) (st : List zV) (sz : Nat) (h : zH) (nx : zLs → List zV → zH → zR) (jp : Nat → zLs → List zV → zH → zR) (ot : zO → zR) : zR := ot (so_lload G pc npc a1 a2 ls st sz h)
noncomputable def yo_lookupswitch (d : Int) (ps : Array (Int × Int)) (G : zG) (pc npc a1 a2 : Nat) (ls : zLs) (st : List zV) (sz : Nat) (h : zH) (nx : zLs → List zV → zH → zR) (jp : Nat → zLs → List zV → zH → zR) (ot : zO → zR) : zR := ot (so_lookupswitch d ps G pc npc a1 a2 ls st sz h)
noncomputable def yo_lreturn (G : zG) (pc npc a1 a2 : Nat) (ls : zLs) (st : List zV) (sz : Nat) (h : zH) (nx : zLs → List zV → zH → zR) (jp : Nat → zLs → List zV → zH → zR) (ot : zO → zR) : zR := ot (so_lreturn G pc npc a1 a2 ls st sz h)
noncomputable def yo_lshl (G : zG) (pc npc a1 a2 : Nat) (ls : zLs) (st : List zV) (sz : Nat) (h : zH) (nx : zLs → List zV → zH → zR) (jp : Nat → zLs → List zV → zH → zR) (ot : zO → zR) : zR := ot (so_lshl G pc npc a1 a2 ls st sz h)
noncomputable def yo_lstore (G : zG) (pc npc a1 a2 : Nat) (ls : zLs) (st : List zV) (sz : Nat) (h : zH) (nx : zLs → List zV → zH → zR) (jp : Nat → zLs → List zV → zH → zR) (ot : zO → zR) : zR := ot (so_lstore G pc npc a1 a2 ls st sz h)
noncomputable def yo_lushr (G : zG) (pc npc a1 a2 : Nat) (ls : zLs) (st : List zV) (sz : Nat) (h : zH) (nx : zLs → List zV → zH → zR) (jp : Nat → zLs → List zV → zH → zR) (ot : zO → zR) : zR := ot (so_lushr G pc npc a1 a2 ls st sz h)
noncomputable def yo_multianewarray (G : zG) (pc npc a1 a2 : Nat) (ls : zLs) (st : List zV) (sz : Nat) (h : zH) (nx : zLs → List zV → zH → zR) (jp : Nat → zLs → List zV → zH → zR) (ot : zO → zR) : zR := ot (so_multianewarray G pc npc a1 a2 ls st sz h)
noncomputable def yo_new (G : zG) (pc npc a1 a2 : Nat) (ls : zLs) (st : List zV) (sz : Nat) (h : zH) (nx : zLs → List zV → zH → zR) (jp : Nat → zLs → List zV → zH → zR) (ot : zO → zR) : zR := ot (so_new G pc npc a1 a2 ls st sz h)
noncomputable def yo_newarray_boolean (G : zG) (pc npc a1 a2 : Nat) (ls : zLs) (st : List zV) (sz : Nat) (h : zH) (nx : zLs → List zV → zH → zR) (jp : Nat → zLs → List zV → zH → zR) (ot : zO → zR) : zR := ot (so_newarray_boolean G pc npc a1 a2 ls st sz h)
noncomputable def yo_newarray_byte (G : zG) (pc npc a1 a2 : Nat) (ls : zLs) (st : List zV) (sz : Nat) (h : zH) (nx : zLs → List zV → zH → zR) (jp : Nat → zLs → List zV → zH → zR) (ot : zO → zR) : zR := ot (so_newarray_byte G pc npc a1 a2 ls st sz h)
noncomputable def yo_newarray_int (G : zG) (pc npc a1 a2 : Nat) (ls : zLs) (st : List zV) (sz : Nat) (h : zH) (nx : zLs → List zV → zH → zR) (jp : Nat → zLs → List zV → zH → zR) (ot : zO → zR) : zR := ot (so_newarray_int G pc npc a1 a2 ls st sz h)
noncomputable def yo_none (G : zG) (pc npc a1 a2 : Nat) (ls : zLs) (st : List zV) (sz : Nat) (h : zH) (nx : zLs → List zV → zH → zR) (jp : Nat → zLs → List zV → zH → zR) (ot : zO → zR) : zR := ot (so_none G pc npc a1 a2 ls st sz h)
noncomputable def yo_pop (G : zG) (pc npc a1 a2 : Nat) (ls : zLs) (st : List zV) (sz : Nat) (h : zH) (nx : zLs → List zV → zH → zR) (jp : Nat → zLs → List zV → zH → zR) (ot : zO → zR) : zR := ot (so_pop G pc npc a1 a2 ls st sz h)
noncomputable def yo_putfield (G : zG) (pc npc a1 a2 : Nat) (ls : zLs) (st : List zV) (sz : Nat) (h : zH) (nx : zLs → List zV → zH → zR) (jp : Nat → zLs → List zV → zH → zR) (ot : zO → zR) : zR := ot (so_putfield G pc npc a1 a2 ls st sz h)
noncomputable def yo_return_ (G : zG) (pc npc a1 a2 : Nat) (ls : zLs) (st : List zV) (sz : Nat) (h : zH) (nx : zLs → List zV → zH → zR) (jp : Nat → zLs → List zV → zH → zR) (ot : zO → zR) : zR := ot (so_return_ G pc npc a1 a2 ls st sz h)
noncomputable def yo_sipush (G : zG) (pc npc a1 a2 : Nat) (ls : zLs) (st : List zV) (sz : Nat) (h : zH) (nx : zLs → List zV → zH → zR) (jp : Nat → zLs → List zV → zH → zR) (ot : zO → zR) : zR := nx ls (zi a1 :: st) h
noncomputable def yo_tableswitch (d lo hi : Int) (offs : Array Int) (G : zG) (pc npc a1 a2 : Nat) (ls : zLs) (st : List zV) (sz : Nat) (h : zH) (nx : zLs → List zV → zH → zR) (jp : Nat → zLs → List zV → zH → zR) (ot : zO → zR) : zR := ot (so_tableswitch d lo hi offs G pc npc a1 a2 ls st sz h)
/-- what does it so -/
noncomputable def zdiC (ins : Instr) : zCn := Instr.rec (motive := fun _ => zCn) yo_aaload yo_aastore yo_none (fun _ => yo_aload) (fun _ => yo_aload) (fun _ => yo_anewarray) yo_areturn yo_arraylength (fun _ => yo_astore) (fun _ => yo_astore) yo_none yo_baload yo_bastore (fun _ => yo_bipush) yo_none yo_none (fun _ => yo_none) yo_none yo_none yo_none yo_none yo_none yo_none (fun _ => yo_none) (fun _ => yo_none) yo_none (fun _ => yo_none) (fun _ => yo_none) yo_none yo_none yo_none yo_none (fun _ => yo_none) (fun _ => yo_none) yo_none yo_dup yo_none yo_none yo_dup2 yo_none yo_none yo_none yo_none yo_none yo_none yo_none yo_none (fun _ => yo_none) (fun _ => yo_none) yo_none (fun _ => yo_none) (fun _ => yo_none) yo_none yo_none yo_none yo_none (fun _ => yo_none) (fun _ => yo_none) yo_none (fun _ => yo_getfield) (fun _ => yo_none) (fun _ => yo_goto) (fun _ => yo_none) yo_i2b yo_none yo_none yo_none yo_i2l yo_none yo_iadd yo_iaload yo_iand yo_iastore (fun _ => yo_iconst) yo_idiv (fun _ _ => yo_none) (fun c _ => Jvm.ClassFile.Cond.rec (motive := fun _ => zCn) yo_if_icmp_eq yo_if_icmp_ne yo_if_icmp_lt yo_if_icmp_ge yo_if_icmp_gt yo_if_icmp_le c) (fun c _ => Jvm.ClassFile.Cond.rec (motive := fun _ => zCn) yo_ifCond_eq yo_ifCond_ne yo_ifCond_lt yo_ifCond_ge yo_ifCond_gt yo_ifCond_le c) (fun _ => yo_none) (fun _ => yo_none) (fun _ _ => yo_iinc) (fun _ => yo_iload) (fun _ => yo_iload) yo_imul yo_ineg (fun _ => yo_none) (fun _ => yo_none) (fun _ _ => yo_none) (fun _ => yo_invokespecial) (fun _ => yo_invokestatic) (fun _ => yo_invokevirtual) yo_ior yo_irem yo_ireturn yo_ishl yo_ishr (fun _ => yo_istore) (fun _ => yo_istore) yo_isub yo_iushr yo_ixor (fun _ => yo_none) (fun _ => yo_none) yo_none yo_none yo_l2i yo_ladd yo_none yo_none yo_none yo_lcmp (fun _ => yo_lconst) (fun _ => yo_ldc) (fun _ => yo_ldc_w) (fun _ => yo_ldc2_w) yo_none (fun _ => yo_lload) (fun _ => yo_lload) yo_none yo_none yo_lookupswitch yo_none yo_none yo_lreturn yo_lshl yo_none (fun _ => yo_lstore) (fun _ => yo_lstore) yo_none yo_lushr yo_none yo_none yo_none (fun _ k => Bool.rec (motive := fun _ => zCn) yo_none yo_multianewarray (Nat.beq k 2)) (fun _ => yo_new) (fun t => ArrayType.rec (motive := fun _ => zCn) yo_newarray_boolean yo_none yo_none yo_none yo_newarray_byte yo_none yo_newarray_int yo_none t) yo_none yo_pop yo_none (fun _ => yo_putfield) (fun _ => yo_none) (fun _ => yo_none) yo_return_ yo_none yo_none (fun _ => yo_sipush) yo_none yo_tableswitch ins
noncomputable def zenc (e : zE) : zQ := fun k => k e.1 (zdiC e.2.1) e.2.2.1 e.2.2.2.1 e.2.2.2.2
/-! ===== the run of a method ===== -/
def zcat (st : List zV) : Nat := (st.map fun a => if zisL a then 2 else 1).sum
noncomputable def zarg : Nat → List zV → zLs
  | _, [] => []
  | i, a :: t => (i, a) :: zarg (if zisL a then i + 2 else i + 1) t
/-- a method's entries: from each place that is jumped to -/
abbrev zK : Type := zT (List zQ)
/-- a method's record: its number, class, whether it's a constructor, its bytes, locals, answer; its entries -/
abbrev zMR : Type := (Nat × Nat × Bool × ByteArray × Nat × Option FieldType) × zK
abbrev zIH : Type := Nat → zK → List zQ → Nat → zLs → List zV → Nat → Nat → zH → zR
noncomputable def zinv (M : zT (Option zMR)) (ih : zIH) (d : Nat) (cd : zK) (cur : List zQ) (ls : zLs) (sz us : Nat) (h : zH) (mj : Nat) (as rest : List zV) (npc : Nat) : zR := match d with
  | 0 => none
  | d' + 1 => Bool.rec (motive := fun _ => zR)
    (match zget M mj with
      | none => none
      | some ((num, _, _, _, maxL, _), cdj) => Bool.rec (motive := fun _ => zR) none
        (match ih d' cdj (zget cdj (nat_lit 0)) (nat_lit 0) (zarg (nat_lit 0) as) [] sz us h with
          | some (v, sz1, us1, h1) => ih (Nat.succ d') cd cur npc ls (match v with
            | some a => a :: rest
            | none => rest) sz1 us1 h1
          | none => none)
        (Nat.beq num mj && Nat.ble (zcat as) maxL && Nat.ble (zcat rest) (nat_lit 8)))
    (match as with
      | [a] => Bool.rec (motive := fun _ => zR) none (ih (Nat.succ d') cd cur npc ls rest sz us h) (zisR a && Nat.ble (zcat rest) (nat_lit 8))
      | _ => none)
    (Nat.beq mj (nat_lit 511))
noncomputable def zout (M : zT (Option zMR)) (ih : zIH) (d : Nat) (cd : zK) (cur : List zQ) (npc : Nat) (ls : zLs) (sz us : Nat) (h : zH) (o : zO) : zR :=
  Option.rec (motive := fun _ => zR) none (fun x => Sum.rec (motive := fun _ => zR)
    (fun t => Prod.rec (motive := fun _ => zR) (fun pc' t => Prod.rec (motive := fun _ => zR) (fun ls' t => Prod.rec (motive := fun _ => zR) (fun st' t => Prod.rec (motive := fun _ => zR) (fun h' t => Prod.rec (motive := fun _ => zR) (fun dz du =>
      fN (Nat.add sz dz) (fun sz' => fN (Nat.add us du) (fun us' => ih d cd (Bool.rec (motive := fun _ => List zQ) (zget cd pc') cur (Nat.beq pc' npc)) pc' ls' st' sz' us' h'))) t) t) t) t) t)
    (fun x => Sum.rec (motive := fun _ => zR) (fun t => zinv M ih d cd cur ls sz us h t.1 t.2.1 t.2.2.1 t.2.2.2) (fun v => some (v, sz, us, h)) x) x) o
noncomputable def znx (ih : zIH) (d : Nat) (cd : zK) (cur : List zQ) (npc sz us : Nat) (ls : zLs) (st : List zV) (h : zH) : zR := ih d cd cur npc ls st sz us h
noncomputable def zjp (ih : zIH) (d : Nat) (cd : zK) (cur : List zQ) (npc sz us : Nat) (t : Nat) (ls : zLs) (st : List zV) (h : zH) : zR := ih d cd (Bool.rec (motive := fun _ => List zQ) (zget cd t) cur (Nat.beq t npc)) t ls st sz us h
noncomputable def zk (M : zT (Option zMR)) (G : zG) (ih : zIH) (d : Nat) (cd : zK) (cur : List zQ) (pc : Nat) (ls : zLs) (st : List zV) (sz us : Nat) (h : zH) (p : Nat) (fn : zCn) (npc a1 a2 : Nat) : zR := Bool.rec (motive := fun _ => zR) none (fn G pc npc a1 a2 ls st sz h (znx ih d cd cur npc sz us) (zjp ih d cd cur npc sz us) (zout M ih d cd cur npc ls sz us h)) (Nat.beq p pc)
noncomputable def zrun (M : zT (Option zMR)) (G : zG) (fuel : Nat) : zIH := Nat.rec (motive := fun _ => zIH) (fun _ _ _ _ _ _ _ _ _ => none) (fun _ ih d cd cur pc ls st sz us h => List.rec (motive := fun _ => zR) none (fun e rest _ => e (zk M G ih d cd rest pc ls st sz us h)) cur) fuel
