/-! ===== what an instruction asks, by its number ===== -/
def k1 (st : List pv) (k : pv → List pv → Prop) : Prop := match st with
  | v :: r => k v r
  | [] => False
def kI (v : pv) (k : Int → Prop) : Prop := v.1 = 0 ∧ k v.2
def kR (v : pv) (k : Int → Prop) : Prop := v.1 = 2 ∧ k v.2
def kL (v : pv) (k : Int → Prop) : Prop := v.1 = 1 ∧ k v.2
def k2 (st : List pv) (k : Int → Int → List pv → Prop) : Prop := k1 st (fun v r => kI v (fun y => k1 r (fun w r => kI w (fun x => k x y r))))
theorem k1_v {st : List pv} {k : pv → List pv → Prop} (h : k1 st k) : ∃ v r, st = v :: r ∧ k v r := by
  match st, h with
  | v :: r, h => exact ⟨v, r, rfl, h⟩
theorem k1_I {st : List pv} {k : List pv → Int → Prop} (h : k1 st (fun v r => kI v (k r))) : ∃ x r, st = (0, x) :: r ∧ k r x := by
  obtain ⟨⟨t, x⟩, r, rfl, h1, h2⟩ := k1_v h
  cases (h1 : t = 0)
  exact ⟨x, r, rfl, h2⟩
theorem k1_R {st : List pv} {k : List pv → Int → Prop} (h : k1 st (fun v r => kR v (k r))) : ∃ x r, st = (2, x) :: r ∧ k r x := by
  obtain ⟨⟨t, x⟩, r, rfl, h1, h2⟩ := k1_v h
  cases (h1 : t = 2)
  exact ⟨x, r, rfl, h2⟩
theorem k1_L {st : List pv} {k : List pv → Int → Prop} (h : k1 st (fun v r => kL v (k r))) : ∃ x r, st = (1, x) :: r ∧ k r x := by
  obtain ⟨⟨t, x⟩, r, rfl, h1, h2⟩ := k1_v h
  cases (h1 : t = 1)
  exact ⟨x, r, rfl, h2⟩
theorem k2_I {st : List pv} {k : Int → Int → List pv → Prop} (h : k2 st k) : ∃ x y r, st = (0, y) :: (0, x) :: r ∧ k x y r := by
  obtain ⟨y, r, rfl, h1⟩ := k1_I h
  obtain ⟨x, r, rfl, h2⟩ := k1_I h1
  exact ⟨x, y, r, rfl, h2⟩
theorem zbeq_ne {a b : Nat} (h : a ≠ b) : Nat.beq a b = false := by
  rw [zbeq]
  exact beq_eq_false_iff_ne.mpr h
theorem ztg_19 (k j : Nat) (h : 19 ≤ k) : ztg k j = 2 := by
  obtain ⟨m, rfl⟩ : ∃ m, k = m + 19 := ⟨k - 19, by omega⟩
  rfl
noncomputable def zop (n : Nat) : zCn := match n with
  | 0 => yo_aload
  | 1 => yo_iload
  | 2 => yo_lload
  | 3 => yo_istore
  | 4 => yo_astore
  | 5 => yo_lstore
  | 6 => yo_iinc
  | 7 => yo_iconst
  | 8 => yo_bipush
  | 9 => yo_sipush
  | 10 => yo_ldc
  | 11 => yo_ldc_w
  | 12 => yo_lconst
  | 13 => yo_ldc2_w
  | 14 => yo_iadd
  | 15 => yo_isub
  | 16 => yo_imul
  | 17 => yo_idiv
  | 18 => yo_irem
  | 19 => yo_iand
  | 20 => yo_ior
  | 21 => yo_ixor
  | 22 => yo_ishl
  | 23 => yo_ishr
  | 24 => yo_iushr
  | 25 => yo_ineg
  | 26 => yo_i2b
  | 27 => yo_i2l
  | 28 => yo_l2i
  | 29 => yo_ladd
  | 30 => yo_lshl
  | 31 => yo_lushr
  | 32 => yo_lcmp
  | 33 => yo_dup
  | 34 => yo_dup2
  | 35 => yo_pop
  | 36 => yo_goto
  | 37 => yo_ifCond_eq
  | 43 => yo_if_icmp_eq
  | 38 => yo_ifCond_ne
  | 44 => yo_if_icmp_ne
  | 39 => yo_ifCond_lt
  | 45 => yo_if_icmp_lt
  | 40 => yo_ifCond_ge
  | 46 => yo_if_icmp_ge
  | 41 => yo_ifCond_gt
  | 47 => yo_if_icmp_gt
  | 42 => yo_ifCond_le
  | 48 => yo_if_icmp_le
  | 49 => yo_getfield
  | 50 => yo_putfield
  | 51 => yo_iaload
  | 52 => yo_iastore
  | 53 => yo_aaload
  | 54 => yo_arraylength
  | 55 => yo_mmax
  | 56 => yo_mmin
  | 57 => yo_baload
  | 58 => yo_bastore
  | 59 => yo_aastore
  | 66 => yo_mabs
  | 100 => (yo_tableswitch 205 0 9 #[56, 75, 83, 104, 123, 134, 145, 156, 175, 186])
  | 101 => (yo_lookupswitch 40 #[(99, 38), (111, 36), (115, 34)])
  | 102 => (yo_lookupswitch 81 #[(42, 59), (43, 51), (45, 55), (47, 63), (60, 75)])
  | 103 => (yo_tableswitch 189 0 13 #[72, 80, 88, 99, 107, 115, 123, 131, 136, 144, 153, 163, 173, 181])
  | 104 => (yo_tableswitch 63 0 4 #[35, 40, 45, 53, 58])
  | 105 => (yo_tableswitch 54 0 3 #[31, 36, 41, 46])
  | 106 => (yo_tableswitch 85 0 4 #[35, 45, 55, 65, 75])
  | 107 => (yo_tableswitch 141 0 8 #[49, 59, 69, 79, 92, 102, 112, 122, 132])
  | 108 => (yo_tableswitch 79 0 5 #[39, 39, 49, 49, 61, 70])
  | 109 => (yo_lookupswitch 86 #[(42, 59), (43, 51), (45, 55), (47, 63), (60, 75)])
  | 110 => (yo_tableswitch 168 0 13 #[71, 78, 85, 92, 101, 108, 115, 122, 127, 132, 138, 145, 152, 160])
  | 111 => (yo_tableswitch 85 0 4 #[36, 46, 56, 65, 75])
  | 112 => (yo_tableswitch 68 0 3 #[32, 41, 50, 59])
  | 113 => (yo_tableswitch 122 0 7 #[47, 54, 61, 68, 74, 91, 108, 115])
  | 60 => yo_invokestatic
  | 61 => yo_invokevirtual
  | 62 => yo_ireturn
  | 63 => yo_areturn
  | 64 => yo_lreturn
  | 65 => yo_return_
  | _ => yo_none
def wI (J : Nat → PL → List pv → PH → Prop) (Q : Option pv → PH → Prop) (C : Nat → List pv → PH → (Option pv → PH → Prop) → Prop) (p op npc a1 a2 : Nat) (ls : PL) (st : List pv) (H : PH) (k : PL → List pv → PH → Prop) : Prop := match op with
  | 0 => ∃ c, pget ls a1 = some (2, c) ∧ 0 ≤ c + 1 ∧ k ls ((2, c) :: st) H
  | 1 => ∃ x, pget ls a1 = some (0, x) ∧ k ls ((0, x) :: st) H
  | 2 => ∃ x, pget ls a1 = some (1, x) ∧ k ls ((1, x) :: st) H
  | 3 => k1 st (fun v r => kI v (fun x => k (pset ls a1 false (0, x)) r H))
  | 4 => k1 st (fun v r => kR v (fun c => 0 ≤ c + 1 ∧ k (pset ls a1 false (2, c)) r H))
  | 5 => k1 st (fun v r => kL v (fun x => k (pset ls a1 true (1, x)) r H))
  | 6 => ∃ x, pget ls a1 = some (0, x) ∧ k (pset ls a1 false (0, zw (x + (a2 : Int)))) st H
  | 7 => a1 < 4294967296 ∧ k ls ((0, zw (a1 : Int)) :: st) H
  | 8 => a1 < 4294967296 ∧ k ls ((0, zw (a1 : Int)) :: st) H
  | 9 => a1 < 4294967296 ∧ k ls ((0, zw (a1 : Int)) :: st) H
  | 10 => a1 < 4294967296 ∧ k ls ((0, zw (a1 : Int)) :: st) H
  | 11 => a1 < 4294967296 ∧ k ls ((0, zw (a1 : Int)) :: st) H
  | 12 => (a1 : Int) < 18446744073709551616 ∧ k ls ((1, (a1 : Int)) :: st) H
  | 13 => (a1 : Int) < 18446744073709551616 ∧ k ls ((1, (a1 : Int)) :: st) H
  | 14 => k2 st (fun x y r => k ls ((0, zw (x + y)) :: r) H)
  | 15 => k2 st (fun x y r => k ls ((0, zw (x - y)) :: r) H)
  | 16 => k2 st (fun x y r => k ls ((0, zw (x * y)) :: r) H)
  | 17 => k2 st (fun x y r => y ≠ 0 ∧ k ls ((0, q2 (· / ·) x y) :: r) H)
  | 18 => k2 st (fun x y r => y ≠ 0 ∧ k ls ((0, q2 (fun x y => x - x / y * y) x y) :: r) H)
  | 19 => k2 st (fun x y r => k ls ((0, q2 (· &&& ·) x y) :: r) H)
  | 20 => k2 st (fun x y r => k ls ((0, q2 (· ||| ·) x y) :: r) H)
  | 21 => k2 st (fun x y r => k ls ((0, q2 (· ^^^ ·) x y) :: r) H)
  | 22 => k2 st (fun x y r => k ls ((0, q2 (fun x y => x <<< (y &&& 31)) x y) :: r) H)
  | 23 => k2 st (fun x y r => k ls ((0, q2 (fun x y => x >>> (y &&& 31)) x y) :: r) H)
  | 24 => k2 st (fun x y r => k ls ((0, q2 (fun x y => (x.toUInt32 >>> (y.toUInt32 &&& Int32.toUInt32 31)).toInt32) x y) :: r) H)
  | 25 => k1 st (fun v r => kI v (fun x => k ls ((0, q1 (fun x => -x) x) :: r) H))
  | 26 => k1 st (fun v r => kI v (fun x => k ls ((0, q1 (fun x => x.toInt8.toInt32) x) :: r) H))
  | 27 => k1 st (fun v r => kI v (fun x => k ls ((1, qil x) :: r) H))
  | 28 => k1 st (fun v r => kL v (fun x => k ls ((0, qli x) :: r) H))
  | 29 => k1 st (fun v r => kL v (fun y => k1 r (fun v r => kL v (fun x => k ls ((1, qladd x y) :: r) H))))
  | 30 => k1 st (fun v r => kI v (fun y => k1 r (fun v r => kL v (fun x => k ls ((1, qlshl x y) :: r) H))))
  | 31 => k1 st (fun v r => kI v (fun y => k1 r (fun v r => kL v (fun x => k ls ((1, qlushr x y) :: r) H))))
  | 32 => k1 st (fun v r => kL v (fun y => k1 r (fun v r => kL v (fun x => k ls ((0, qlcmp x y) :: r) H))))
  | 33 => k1 st (fun v r => v.1 ≠ 1 ∧ k ls (v :: v :: r) H)
  | 34 => k1 st (fun w r => k1 r (fun v r => v.1 ≠ 1 ∧ w.1 ≠ 1 ∧ k ls (w :: v :: w :: v :: r) H))
  | 35 => k1 st (fun v r => v.1 ≠ 1 ∧ k ls r H)
  | 36 => a1 ≠ npc ∧ J a1 ls st H
  | 37 => k1 st (fun v r => kI v (fun x => a1 ≠ npc ∧ ((x = 0) → J a1 ls r H) ∧ (¬ (x = 0) → k ls r H)))
  | 43 => k2 st (fun x y r => a1 ≠ npc ∧ ((x = y) → J a1 ls r H) ∧ (¬ (x = y) → k ls r H))
  | 38 => k1 st (fun v r => kI v (fun x => a1 ≠ npc ∧ ((¬ x = 0) → J a1 ls r H) ∧ (¬ (¬ x = 0) → k ls r H)))
  | 44 => k2 st (fun x y r => a1 ≠ npc ∧ ((¬ x = y) → J a1 ls r H) ∧ (¬ (¬ x = y) → k ls r H))
  | 39 => k1 st (fun v r => kI v (fun x => a1 ≠ npc ∧ ((x < 0) → J a1 ls r H) ∧ (¬ (x < 0) → k ls r H)))
  | 45 => k2 st (fun x y r => a1 ≠ npc ∧ ((x < y) → J a1 ls r H) ∧ (¬ (x < y) → k ls r H))
  | 40 => k1 st (fun v r => kI v (fun x => a1 ≠ npc ∧ ((0 ≤ x) → J a1 ls r H) ∧ (¬ (0 ≤ x) → k ls r H)))
  | 46 => k2 st (fun x y r => a1 ≠ npc ∧ ((y ≤ x) → J a1 ls r H) ∧ (¬ (y ≤ x) → k ls r H))
  | 41 => k1 st (fun v r => kI v (fun x => a1 ≠ npc ∧ ((0 < x) → J a1 ls r H) ∧ (¬ (0 < x) → k ls r H)))
  | 47 => k2 st (fun x y r => a1 ≠ npc ∧ ((y < x) → J a1 ls r H) ∧ (¬ (y < x) → k ls r H))
  | 42 => k1 st (fun v r => kI v (fun x => a1 ≠ npc ∧ ((x ≤ 0) → J a1 ls r H) ∧ (¬ (x ≤ 0) → k ls r H)))
  | 48 => k2 st (fun x y r => a1 ≠ npc ∧ ((x ≤ y) → J a1 ls r H) ∧ (¬ (x ≤ y) → k ls r H))
  | 49 => k1 st (fun v r => kR v (fun c => (0 ≤ c ∧ c < zNC) ∧ (zSh c.toNat).1 = a1 ∧ ¬ zrow a1 ∧ a2 < (zSh c.toNat).2.1 ∧ k ls ((ztg a1 a2, gv H c a2) :: r) H))
  | 50 => k1 st (fun v r => k1 r (fun w r => kR w (fun c => (0 ≤ c ∧ c < zNC) ∧ (zSh c.toNat).1 = a1 ∧ ¬ zrow a1 ∧ a2 % 64 < (zSh c.toNat).2.1 ∧ v.1 = ztg a1 (a2 % 64) ∧ (a1 < 16 ∧ (ztg a1 (a2 % 64) ≠ 2 ∨ zrt c.toNat (a2 % 64) = none)) ∧ (pok v → zfit (a2 / 64) (pe v) = true) ∧ k ls r (pup H c ((a2 % 64 : Nat) : Int) v.2))))
  | 51 => k1 st (fun v r => kI v (fun i => k1 r (fun v r => kR v (fun c => (0 ≤ c ∧ c < zNC) ∧ (zSh c.toNat).1 = 16 ∧ (0 ≤ i ∧ i < (zSh c.toNat).2.1) ∧ k ls ((0, H c i) :: r) H))))
  | 52 => k1 st (fun v r => kI v (fun x => k1 r (fun v r => kI v (fun i => k1 r (fun v r => kR v (fun c => (0 ≤ c ∧ c < zNC) ∧ (zSh c.toNat).1 = 16 ∧ (0 ≤ i ∧ i < (zSh c.toNat).2.1) ∧ k ls r (pup H c i x)))))))
  | 53 => k1 st (fun v r => kI v (fun i => k1 r (fun v r => kR v (fun c => (0 ≤ c ∧ c < zNC) ∧ 19 ≤ (zSh c.toNat).1 ∧ (0 ≤ i ∧ i < (zSh c.toNat).2.1) ∧ 0 ≤ gv H c i + 1 ∧ k ls ((2, gv H c i) :: r) H))))
  | 54 => k1 st (fun v r => kR v (fun c => (0 ≤ c ∧ c < zNC) ∧ 16 ≤ (zSh c.toNat).1 ∧ k ls ((0, ((zSh c.toNat).2.1 : Int)) :: r) H))
  | 55 => k2 st (fun x y r => pcat r ≤ 8 ∧ k ls ((0, if x < y then y else x) :: r) H)
  | 56 => k2 st (fun x y r => pcat r ≤ 8 ∧ k ls ((0, if y < x then y else x) :: r) H)
  | 57 => k1 st (fun v r => kI v (fun i => k1 r (fun v r => kR v (fun c => (0 ≤ c ∧ c < zNC) ∧ ((zSh c.toNat).1 = 17 ∨ (zSh c.toNat).1 = 18) ∧ (0 ≤ i ∧ i < (zSh c.toNat).2.1) ∧ k ls ((0, H c i) :: r) H))))
  | 58 => k1 st (fun v r => kI v (fun x => k1 r (fun v r => kI v (fun i => k1 r (fun v r => kR v (fun c => (0 ≤ c ∧ c < zNC) ∧ ((zSh c.toNat).1 = 17 ∨ (zSh c.toNat).1 = 18) ∧ (0 ≤ i ∧ i < (zSh c.toNat).2.1) ∧ k ls r (pup H c i (qb (zSh c.toNat).1 x))))))))
  | 59 => k1 st (fun v r => kR v (fun d => k1 r (fun v r => kI v (fun i => k1 r (fun v r => kR v (fun c => (0 ≤ c ∧ c < zNC) ∧ 19 ≤ (zSh c.toNat).1 ∧ (0 ≤ i ∧ i < (zSh c.toNat).2.1) ∧ (0 ≤ d ∧ d < zNC) ∧ (zSh d.toNat).1 = zcls (zSh c.toNat).1 ∧ zrtL c.toNat = [] ∧ k ls r (pup H c i d)))))))
  | 66 => k1 st (fun v r => kI v (fun x => pcat r ≤ 8 ∧ k ls ((0, if 0 ≤ x then x else zw (0 - x)) :: r) H))
  | 100 => k1 st (fun v r => kI v (fun x => ∃ t, ptsw p 205 0 9 #[56, 75, 83, 104, 123, 134, 145, 156, 175, 186] x = some t ∧ (t ≠ npc → J t ls r H) ∧ (t = npc → k ls r H)))
  | 101 => k1 st (fun v r => kI v (fun x => ∃ t, ptl p (Op.lookupswitch.offset (#[(99, 38), (111, 36), (115, 34)] : Array (Int × Int)).toList 40 x) = some t ∧ (t ≠ npc → J t ls r H) ∧ (t = npc → k ls r H)))
  | 102 => k1 st (fun v r => kI v (fun x => ∃ t, ptl p (Op.lookupswitch.offset (#[(42, 59), (43, 51), (45, 55), (47, 63), (60, 75)] : Array (Int × Int)).toList 81 x) = some t ∧ (t ≠ npc → J t ls r H) ∧ (t = npc → k ls r H)))
  | 103 => k1 st (fun v r => kI v (fun x => ∃ t, ptsw p 189 0 13 #[72, 80, 88, 99, 107, 115, 123, 131, 136, 144, 153, 163, 173, 181] x = some t ∧ (t ≠ npc → J t ls r H) ∧ (t = npc → k ls r H)))
  | 104 => k1 st (fun v r => kI v (fun x => ∃ t, ptsw p 63 0 4 #[35, 40, 45, 53, 58] x = some t ∧ (t ≠ npc → J t ls r H) ∧ (t = npc → k ls r H)))
  | 105 => k1 st (fun v r => kI v (fun x => ∃ t, ptsw p 54 0 3 #[31, 36, 41, 46] x = some t ∧ (t ≠ npc → J t ls r H) ∧ (t = npc → k ls r H)))
  | 106 => k1 st (fun v r => kI v (fun x => ∃ t, ptsw p 85 0 4 #[35, 45, 55, 65, 75] x = some t ∧ (t ≠ npc → J t ls r H) ∧ (t = npc → k ls r H)))
  | 107 => k1 st (fun v r => kI v (fun x => ∃ t, ptsw p 141 0 8 #[49, 59, 69, 79, 92, 102, 112, 122, 132] x = some t ∧ (t ≠ npc → J t ls r H) ∧ (t = npc → k ls r H)))
  | 108 => k1 st (fun v r => kI v (fun x => ∃ t, ptsw p 79 0 5 #[39, 39, 49, 49, 61, 70] x = some t ∧ (t ≠ npc → J t ls r H) ∧ (t = npc → k ls r H)))
  | 109 => k1 st (fun v r => kI v (fun x => ∃ t, ptl p (Op.lookupswitch.offset (#[(42, 59), (43, 51), (45, 55), (47, 63), (60, 75)] : Array (Int × Int)).toList 86 x) = some t ∧ (t ≠ npc → J t ls r H) ∧ (t = npc → k ls r H)))
  | 110 => k1 st (fun v r => kI v (fun x => ∃ t, ptsw p 168 0 13 #[71, 78, 85, 92, 101, 108, 115, 122, 127, 132, 138, 145, 152, 160] x = some t ∧ (t ≠ npc → J t ls r H) ∧ (t = npc → k ls r H)))
  | 111 => k1 st (fun v r => kI v (fun x => ∃ t, ptsw p 85 0 4 #[36, 46, 56, 65, 75] x = some t ∧ (t ≠ npc → J t ls r H) ∧ (t = npc → k ls r H)))
  | 112 => k1 st (fun v r => kI v (fun x => ∃ t, ptsw p 68 0 3 #[32, 41, 50, 59] x = some t ∧ (t ≠ npc → J t ls r H) ∧ (t = npc → k ls r H)))
  | 113 => k1 st (fun v r => kI v (fun x => ∃ t, ptsw p 122 0 7 #[47, 54, 61, 68, 74, 91, 108, 115] x = some t ∧ (t ≠ npc → J t ls r H) ∧ (t = npc → k ls r H)))
  | 60 => a1 ≠ 511 ∧ a2 / 16 = 0 ∧ a2 ≤ st.length ∧ pcat (st.drop a2) ≤ 8 ∧ C a1 (st.take a2).reverse H (fun r H2 => k ls (ppush r (st.drop a2)) H2)
  | 61 => a1 ≠ 511 ∧ a2 % 16 ≤ st.length ∧ 1 ≤ a2 % 16 ∧ pcat (st.drop (a2 % 16)) ≤ 8 ∧ k1 (st.take (a2 % 16)).reverse (fun v t => kR v (fun c => (0 ≤ c ∧ c < zNC) ∧ (zSh c.toNat).1 + 1 = a2 / 16 ∧ C a1 ((2, c) :: t) H (fun r H2 => k ls (ppush r (st.drop (a2 % 16))) H2)))
  | 62 => k1 st (fun v r => kI v (fun x => r = [] ∧ (a1 = 0 ∨ (a1 = 2 ∧ 0 ≤ x ∧ x < 2)) ∧ Q (some (0, x)) H))
  | 63 => k1 st (fun v r => kR v (fun x => r = [] ∧ 0 ≤ x + 1 ∧ Q (some (2, x)) H))
  | 64 => k1 st (fun v r => kL v (fun x => r = [] ∧ Q (some (1, x)) H))
  | 65 => st = [] ∧ Q none H
  | _ => False
theorem wI_ok {G : zG} {us : Nat} {cd : zK} {D : Nat} {rest : List zQ} {p npc a1 a2 : Nat} {ls : PL} {st : List pv} {H : PH} {Q : Option pv → PH → Prop} {J : Nat → PL → List pv → PH → Prop} {C : Nat → List pv → PH → (Option pv → PH → Prop) → Prop} {k : PL → List pv → PH → Prop} {op : Nat} (hw : wI J Q C p op npc a1 a2 ls st H k) (hk : ∀ ls st H, k ls st H → Tr G us cd (D + 1) rest npc ls st H Q) (hj : ∀ t ls st H, J t ls st H → Tr G us cd (D + 1) (zget cd t) t ls st H Q) (hC : ∀ mj as H K, C mj as H K → Ca G us D mj as H K) : Tr G us cd (D + 1) ((fun k => k p (zop op) npc a1 a2) :: rest) p ls st H Q := by
  match op, hw with
  | 0, hw =>
    obtain ⟨c, h1, h2, h3⟩ := hw
    exact tr_aload h1 h2 (hk _ _ _ h3)
  | 1, hw =>
    obtain ⟨x, h1, h3⟩ := hw
    exact tr_iload h1 (hk _ _ _ h3)
  | 2, hw =>
    obtain ⟨x, h1, h3⟩ := hw
    exact tr_lload h1 (hk _ _ _ h3)
  | 3, hw =>
    obtain ⟨x, r, rfl, h3⟩ := k1_I hw
    exact tr_istore (hk _ _ _ h3)
  | 4, hw =>
    obtain ⟨c, r, rfl, h2, h3⟩ := k1_R hw
    exact tr_astore h2 (hk _ _ _ h3)
  | 5, hw =>
    obtain ⟨x, r, rfl, h3⟩ := k1_L hw
    exact tr_lstore (hk _ _ _ h3)
  | 6, hw =>
    obtain ⟨x, h1, h3⟩ := hw
    exact tr_iinc h1 (hk _ _ _ h3)
  | 7, hw =>
    exact tr_k yk_iconst hw.1 (hk _ _ _ hw.2)
  | 8, hw =>
    exact tr_k yk_bipush hw.1 (hk _ _ _ hw.2)
  | 9, hw =>
    exact tr_k yk_sipush hw.1 (hk _ _ _ hw.2)
  | 10, hw =>
    exact tr_k (fun _ _ _ _ _ _ _ _ _ _ _ _ _ _ _ => rfl) hw.1 (hk _ _ _ hw.2)
  | 11, hw =>
    exact tr_k (fun _ _ _ _ _ _ _ _ _ _ _ _ _ _ _ => rfl) hw.1 (hk _ _ _ hw.2)
  | 12, hw =>
    exact tr_lk (fun _ _ _ _ _ _ _ _ _ _ _ _ _ _ _ => rfl) hw.1 (hk _ _ _ hw.2)
  | 13, hw =>
    exact tr_lk (fun _ _ _ _ _ _ _ _ _ _ _ _ _ _ _ => rfl) hw.1 (hk _ _ _ hw.2)
  | 14, hw =>
    obtain ⟨x, y, r, rfl, h3⟩ := k2_I hw
    exact tr_iadd (hk _ _ _ h3)
  | 15, hw =>
    obtain ⟨x, y, r, rfl, h3⟩ := k2_I hw
    exact tr_isub (hk _ _ _ h3)
  | 16, hw =>
    obtain ⟨x, y, r, rfl, h3⟩ := k2_I hw
    exact tr_imul (hk _ _ _ h3)
  | 17, hw =>
    obtain ⟨x, y, r, rfl, h0, h3⟩ := k2_I hw
    exact tr_idiv h0 (hk _ _ _ h3)
  | 18, hw =>
    obtain ⟨x, y, r, rfl, h0, h3⟩ := k2_I hw
    exact tr_irem h0 (hk _ _ _ h3)
  | 19, hw =>
    obtain ⟨x, y, r, rfl, h3⟩ := k2_I hw
    exact tr_iand (hk _ _ _ h3)
  | 20, hw =>
    obtain ⟨x, y, r, rfl, h3⟩ := k2_I hw
    exact tr_ior (hk _ _ _ h3)
  | 21, hw =>
    obtain ⟨x, y, r, rfl, h3⟩ := k2_I hw
    exact tr_ixor (hk _ _ _ h3)
  | 22, hw =>
    obtain ⟨x, y, r, rfl, h3⟩ := k2_I hw
    exact tr_ishl (hk _ _ _ h3)
  | 23, hw =>
    obtain ⟨x, y, r, rfl, h3⟩ := k2_I hw
    exact tr_ishr (hk _ _ _ h3)
  | 24, hw =>
    obtain ⟨x, y, r, rfl, h3⟩ := k2_I hw
    exact tr_iushr (hk _ _ _ h3)
  | 25, hw =>
    obtain ⟨x, r, rfl, h3⟩ := k1_I hw
    exact tr_ineg (hk _ _ _ h3)
  | 26, hw =>
    obtain ⟨x, r, rfl, h3⟩ := k1_I hw
    exact tr_i2b (hk _ _ _ h3)
  | 27, hw =>
    obtain ⟨x, r, rfl, h3⟩ := k1_I hw
    exact tr_i2l (hk _ _ _ h3)
  | 28, hw =>
    obtain ⟨x, r, rfl, h3⟩ := k1_L hw
    exact tr_l2i (hk _ _ _ h3)
  | 29, hw =>
    obtain ⟨y, r, rfl, h2⟩ := k1_L hw
    obtain ⟨x, r, rfl, h3⟩ := k1_L h2
    exact tr_ladd (hk _ _ _ h3)
  | 30, hw =>
    obtain ⟨y, r, rfl, h2⟩ := k1_I hw
    obtain ⟨x, r, rfl, h3⟩ := k1_L h2
    exact tr_lshl (hk _ _ _ h3)
  | 31, hw =>
    obtain ⟨y, r, rfl, h2⟩ := k1_I hw
    obtain ⟨x, r, rfl, h3⟩ := k1_L h2
    exact tr_lushr (hk _ _ _ h3)
  | 32, hw =>
    obtain ⟨y, r, rfl, h2⟩ := k1_L hw
    obtain ⟨x, r, rfl, h3⟩ := k1_L h2
    exact tr_lcmp (hk _ _ _ h3)
  | 33, hw =>
    obtain ⟨v, r, rfl, h2, h3⟩ := k1_v hw
    exact tr_dup h2 (hk _ _ _ h3)
  | 34, hw =>
    obtain ⟨w, r, rfl, h1⟩ := k1_v hw
    obtain ⟨v, r, rfl, h2, h3, h4⟩ := k1_v h1
    exact tr_dup2 h2 h3 (hk _ _ _ h4)
  | 35, hw =>
    obtain ⟨v, r, rfl, h2, h3⟩ := k1_v hw
    exact tr_pop h2 (hk _ _ _ h3)
  | 36, hw =>
    exact tr_goto (zbeq_ne hw.1) (hj _ _ _ _ hw.2)
  | 37, hw =>
    obtain ⟨x, r, rfl, h0, h1, h2⟩ := k1_I hw
    exact tr_cond (c := .eq) (zbeq_ne h0) yk_cond_eq (fun _ _ _ _ _ _ _ _ _ _ => rfl) (fun q => hj _ _ _ _ (h1 q)) (fun q => hk _ _ _ (h2 q))
  | 43, hw =>
    obtain ⟨x, y, r, rfl, h0, h1, h2⟩ := k2_I hw
    exact tr_icmp (c := .eq) (zbeq_ne h0) yk_icmp_eq (fun _ _ _ _ _ _ _ _ _ _ _ => rfl) (fun q => hj _ _ _ _ (h1 q)) (fun q => hk _ _ _ (h2 q))
  | 38, hw =>
    obtain ⟨x, r, rfl, h0, h1, h2⟩ := k1_I hw
    exact tr_cond (c := .ne) (zbeq_ne h0) yk_cond_ne (fun _ _ _ _ _ _ _ _ _ _ => rfl) (fun q => hj _ _ _ _ (h1 q)) (fun q => hk _ _ _ (h2 q))
  | 44, hw =>
    obtain ⟨x, y, r, rfl, h0, h1, h2⟩ := k2_I hw
    exact tr_icmp (c := .ne) (zbeq_ne h0) yk_icmp_ne (fun _ _ _ _ _ _ _ _ _ _ _ => rfl) (fun q => hj _ _ _ _ (h1 q)) (fun q => hk _ _ _ (h2 q))
  | 39, hw =>
    obtain ⟨x, r, rfl, h0, h1, h2⟩ := k1_I hw
    exact tr_cond (c := .lt) (zbeq_ne h0) yk_cond_lt (fun _ _ _ _ _ _ _ _ _ _ => rfl) (fun q => hj _ _ _ _ (h1 q)) (fun q => hk _ _ _ (h2 q))
  | 45, hw =>
    obtain ⟨x, y, r, rfl, h0, h1, h2⟩ := k2_I hw
    exact tr_icmp (c := .lt) (zbeq_ne h0) yk_icmp_lt (fun _ _ _ _ _ _ _ _ _ _ _ => rfl) (fun q => hj _ _ _ _ (h1 q)) (fun q => hk _ _ _ (h2 q))
  | 40, hw =>
    obtain ⟨x, r, rfl, h0, h1, h2⟩ := k1_I hw
    exact tr_cond (c := .ge) (zbeq_ne h0) yk_cond_ge (fun _ _ _ _ _ _ _ _ _ _ => rfl) (fun q => hj _ _ _ _ (h1 q)) (fun q => hk _ _ _ (h2 q))
  | 46, hw =>
    obtain ⟨x, y, r, rfl, h0, h1, h2⟩ := k2_I hw
    exact tr_icmp (c := .ge) (zbeq_ne h0) yk_icmp_ge (fun _ _ _ _ _ _ _ _ _ _ _ => rfl) (fun q => hj _ _ _ _ (h1 q)) (fun q => hk _ _ _ (h2 q))
  | 41, hw =>
    obtain ⟨x, r, rfl, h0, h1, h2⟩ := k1_I hw
    exact tr_cond (c := .gt) (zbeq_ne h0) yk_cond_gt (fun _ _ _ _ _ _ _ _ _ _ => rfl) (fun q => hj _ _ _ _ (h1 q)) (fun q => hk _ _ _ (h2 q))
  | 47, hw =>
    obtain ⟨x, y, r, rfl, h0, h1, h2⟩ := k2_I hw
    exact tr_icmp (c := .gt) (zbeq_ne h0) yk_icmp_gt (fun _ _ _ _ _ _ _ _ _ _ _ => rfl) (fun q => hj _ _ _ _ (h1 q)) (fun q => hk _ _ _ (h2 q))
  | 42, hw =>
    obtain ⟨x, r, rfl, h0, h1, h2⟩ := k1_I hw
    exact tr_cond (c := .le) (zbeq_ne h0) yk_cond_le (fun _ _ _ _ _ _ _ _ _ _ => rfl) (fun q => hj _ _ _ _ (h1 q)) (fun q => hk _ _ _ (h2 q))
  | 48, hw =>
    obtain ⟨x, y, r, rfl, h0, h1, h2⟩ := k2_I hw
    exact tr_icmp (c := .le) (zbeq_ne h0) yk_icmp_le (fun _ _ _ _ _ _ _ _ _ _ _ => rfl) (fun q => hj _ _ _ _ (h1 q)) (fun q => hk _ _ _ (h2 q))
  | 49, hw =>
    obtain ⟨c, r, rfl, ⟨h0, h1⟩, h2, h3, h4, h5⟩ := k1_R hw
    exact tr_getfield h0 h1 h2 h3 h4 (hk _ _ _ h5)
  | 50, hw =>
    obtain ⟨v, r, rfl, h9⟩ := k1_v hw
    obtain ⟨c, r, rfl, ⟨h0, h1⟩, h2, h3, h4, h5, ⟨h8, h10⟩, h6, h7⟩ := k1_R h9
    exact tr_putfield (t := 0) h0 h1 h2 h3 h8 h4 h5 h10 h6 (hk _ _ _ h7)
  | 51, hw =>
    obtain ⟨i, r, rfl, h9⟩ := k1_I hw
    obtain ⟨c, r, rfl, ⟨h0, h1⟩, h2, ⟨h3, h4⟩, h5⟩ := k1_R h9
    exact tr_iaload h0 h1 h2 h3 h4 (hk _ _ _ h5)
  | 52, hw =>
    obtain ⟨x, r, rfl, h8⟩ := k1_I hw
    obtain ⟨i, r, rfl, h9⟩ := k1_I h8
    obtain ⟨c, r, rfl, ⟨h0, h1⟩, h2, ⟨h3, h4⟩, h5⟩ := k1_R h9
    exact tr_iastore h0 h1 h2 h3 h4 (hk _ _ _ h5)
  | 53, hw =>
    obtain ⟨i, r, rfl, h9⟩ := k1_I hw
    obtain ⟨c, r, rfl, ⟨h0, h1⟩, h2, ⟨h3, h4⟩, h6, h5⟩ := k1_R h9
    exact tr_aaload h0 h1 h2 h3 h4 h6 ztg_19 (hk _ _ _ h5)
  | 54, hw =>
    obtain ⟨c, r, rfl, ⟨h0, h1⟩, h2, h5⟩ := k1_R hw
    exact tr_alen h0 h1 h2 (hk _ _ _ h5)
  | 55, hw =>
    obtain ⟨x, y, r, rfl, h0, h3⟩ := k2_I hw
    exact tr_mmax h0 (hk _ _ _ h3)
  | 56, hw =>
    obtain ⟨x, y, r, rfl, h0, h3⟩ := k2_I hw
    exact tr_mmin h0 (hk _ _ _ h3)
  | 57, hw =>
    obtain ⟨i, r, rfl, h9⟩ := k1_I hw
    obtain ⟨c, r, rfl, ⟨h0, h1⟩, h2, ⟨h3, h4⟩, h5⟩ := k1_R h9
    exact tr_baload h0 h1 h2 h3 h4 (hk _ _ _ h5)
  | 58, hw =>
    obtain ⟨x, r, rfl, h8⟩ := k1_I hw
    obtain ⟨i, r, rfl, h9⟩ := k1_I h8
    obtain ⟨c, r, rfl, ⟨h0, h1⟩, h2, ⟨h3, h4⟩, h5⟩ := k1_R h9
    exact tr_bastore h0 h1 h2 h3 h4 (hk _ _ _ h5)
  | 59, hw =>
    obtain ⟨d, r, rfl, h8⟩ := k1_R hw
    obtain ⟨i, r, rfl, h9⟩ := k1_I h8
    obtain ⟨c, r, rfl, ⟨h0, h1⟩, h2, ⟨h3, h4⟩, ⟨h6, h7⟩, h10, h11, h5⟩ := k1_R h9
    exact tr_aastore h0 h1 h2 h3 h4 h6 h7 h10 ztg_19 h11 (hk _ _ _ h5)
  | 66, hw =>
    obtain ⟨x, r, rfl, h0, h3⟩ := k1_I hw
    exact tr_mabs h0 (hk _ _ _ h3)
  | 100, hw =>
    obtain ⟨x, r, rfl, t, h0, h1, h2⟩ := k1_I hw
    refine tr_tsw h0 ?_
    by_cases e : t = npc
    · subst e
      rw [Nat.beq_refl]
      exact hk _ _ _ (h2 rfl)
    · rw [zbeq_ne e]
      exact hj _ _ _ _ (h1 e)
  | 101, hw =>
    obtain ⟨x, r, rfl, t, h0, h1, h2⟩ := k1_I hw
    refine tr_lsw h0 ?_
    by_cases e : t = npc
    · subst e
      rw [Nat.beq_refl]
      exact hk _ _ _ (h2 rfl)
    · rw [zbeq_ne e]
      exact hj _ _ _ _ (h1 e)
  | 102, hw =>
    obtain ⟨x, r, rfl, t, h0, h1, h2⟩ := k1_I hw
    refine tr_lsw h0 ?_
    by_cases e : t = npc
    · subst e
      rw [Nat.beq_refl]
      exact hk _ _ _ (h2 rfl)
    · rw [zbeq_ne e]
      exact hj _ _ _ _ (h1 e)
  | 103, hw =>
    obtain ⟨x, r, rfl, t, h0, h1, h2⟩ := k1_I hw
    refine tr_tsw h0 ?_
    by_cases e : t = npc
    · subst e
      rw [Nat.beq_refl]
      exact hk _ _ _ (h2 rfl)
    · rw [zbeq_ne e]
      exact hj _ _ _ _ (h1 e)
  | 104, hw =>
    obtain ⟨x, r, rfl, t, h0, h1, h2⟩ := k1_I hw
    refine tr_tsw h0 ?_
    by_cases e : t = npc
    · subst e
      rw [Nat.beq_refl]
      exact hk _ _ _ (h2 rfl)
    · rw [zbeq_ne e]
      exact hj _ _ _ _ (h1 e)
  | 105, hw =>
    obtain ⟨x, r, rfl, t, h0, h1, h2⟩ := k1_I hw
    refine tr_tsw h0 ?_
    by_cases e : t = npc
    · subst e
      rw [Nat.beq_refl]
      exact hk _ _ _ (h2 rfl)
    · rw [zbeq_ne e]
      exact hj _ _ _ _ (h1 e)
  | 106, hw =>
    obtain ⟨x, r, rfl, t, h0, h1, h2⟩ := k1_I hw
    refine tr_tsw h0 ?_
    by_cases e : t = npc
    · subst e
      rw [Nat.beq_refl]
      exact hk _ _ _ (h2 rfl)
    · rw [zbeq_ne e]
      exact hj _ _ _ _ (h1 e)
  | 107, hw =>
    obtain ⟨x, r, rfl, t, h0, h1, h2⟩ := k1_I hw
    refine tr_tsw h0 ?_
    by_cases e : t = npc
    · subst e
      rw [Nat.beq_refl]
      exact hk _ _ _ (h2 rfl)
    · rw [zbeq_ne e]
      exact hj _ _ _ _ (h1 e)
  | 108, hw =>
    obtain ⟨x, r, rfl, t, h0, h1, h2⟩ := k1_I hw
    refine tr_tsw h0 ?_
    by_cases e : t = npc
    · subst e
      rw [Nat.beq_refl]
      exact hk _ _ _ (h2 rfl)
    · rw [zbeq_ne e]
      exact hj _ _ _ _ (h1 e)
  | 109, hw =>
    obtain ⟨x, r, rfl, t, h0, h1, h2⟩ := k1_I hw
    refine tr_lsw h0 ?_
    by_cases e : t = npc
    · subst e
      rw [Nat.beq_refl]
      exact hk _ _ _ (h2 rfl)
    · rw [zbeq_ne e]
      exact hj _ _ _ _ (h1 e)
  | 110, hw =>
    obtain ⟨x, r, rfl, t, h0, h1, h2⟩ := k1_I hw
    refine tr_tsw h0 ?_
    by_cases e : t = npc
    · subst e
      rw [Nat.beq_refl]
      exact hk _ _ _ (h2 rfl)
    · rw [zbeq_ne e]
      exact hj _ _ _ _ (h1 e)
  | 111, hw =>
    obtain ⟨x, r, rfl, t, h0, h1, h2⟩ := k1_I hw
    refine tr_tsw h0 ?_
    by_cases e : t = npc
    · subst e
      rw [Nat.beq_refl]
      exact hk _ _ _ (h2 rfl)
    · rw [zbeq_ne e]
      exact hj _ _ _ _ (h1 e)
  | 112, hw =>
    obtain ⟨x, r, rfl, t, h0, h1, h2⟩ := k1_I hw
    refine tr_tsw h0 ?_
    by_cases e : t = npc
    · subst e
      rw [Nat.beq_refl]
      exact hk _ _ _ (h2 rfl)
    · rw [zbeq_ne e]
      exact hj _ _ _ _ (h1 e)
  | 113, hw =>
    obtain ⟨x, r, rfl, t, h0, h1, h2⟩ := k1_I hw
    refine tr_tsw h0 ?_
    by_cases e : t = npc
    · subst e
      rw [Nat.beq_refl]
      exact hk _ _ _ (h2 rfl)
    · rw [zbeq_ne e]
      exact hj _ _ _ _ (h1 e)
  | 60, hw =>
    obtain ⟨h0, h1, h2, h3, h4⟩ := hw
    have e : a2 % 16 = a2 := by omega
    refine tr_static (as := (st.take a2).reverse) (st0 := st.drop a2) h0 (by rw [List.reverse_reverse, List.take_append_drop]) (by rw [List.length_reverse, List.length_take, e]; omega) h1 h3 (Ca_mono (Nat.le_refl _) (fun r H2 q => hk _ _ _ q) (hC _ _ _ _ h4))
  | 61, hw =>
    obtain ⟨h0, h2, h21, h3, h4⟩ := hw
    obtain ⟨c, t, et, ⟨g0, g1⟩, g2, g3⟩ := k1_R h4
    have el : t.length + 1 = a2 % 16 := by
      have := congrArg List.length et
      rw [List.length_reverse, List.length_take, List.length_cons] at this
      omega
    exact tr_virtual (c := c) (t := t) (st0 := st.drop (a2 % 16)) h0 (by rw [← et, List.reverse_reverse, List.take_append_drop]) el g0 g1 g2 h3 (Ca_mono (Nat.le_refl _) (fun r H2 q => hk _ _ _ q) (hC _ _ _ _ g3))
  | 62, hw =>
    obtain ⟨x, r, rfl, rfl, h0, h3⟩ := k1_I hw
    exact tr_ireturn h0 h3
  | 63, hw =>
    obtain ⟨x, r, rfl, rfl, h0, h3⟩ := k1_R hw
    exact tr_areturn h0 h3
  | 64, hw =>
    obtain ⟨x, r, rfl, rfl, h3⟩ := k1_L hw
    exact tr_lreturn h3
  | 65, hw =>
    obtain ⟨rfl, h3⟩ := hw
    exact tr_return h3
abbrev VE : Type := Nat × Nat × Nat × Nat × Nat
noncomputable def vq (e : VE) : zQ := fun k => k e.1 (zop e.2.1) e.2.2.1 e.2.2.2.1 e.2.2.2.2
def wB (J : Nat → PL → List pv → PH → Prop) (Q : Option pv → PH → Prop) (C : Nat → List pv → PH → (Option pv → PH → Prop) → Prop) (nx : Option Nat) : List VE → Nat → PL → List pv → PH → Prop
  | [], pc, ls, st, H => nx = some pc ∧ J pc ls st H
  | e :: t, pc, ls, st, H => e.1 = pc ∧ wI J Q C e.1 e.2.1 e.2.2.1 e.2.2.2.1 e.2.2.2.2 ls st H (wB J Q C nx t e.2.2.1)
noncomputable def vrest (cd : zK) (nx : Option Nat) : List zQ := match nx with
  | some t => zget cd t
  | none => []
theorem wB_ok {G : zG} {us : Nat} {cd : zK} {D : Nat} {Q : Option pv → PH → Prop} {J : Nat → PL → List pv → PH → Prop} {C : Nat → List pv → PH → (Option pv → PH → Prop) → Prop} {nx : Option Nat} (hj : ∀ t ls st H, J t ls st H → Tr G us cd (D + 1) (zget cd t) t ls st H Q) (hC : ∀ mj as H K, C mj as H K → Ca G us D mj as H K) : ∀ (b : List VE) (pc : Nat) (ls : PL) (st : List pv) (H : PH), wB J Q C nx b pc ls st H → Tr G us cd (D + 1) (b.map vq ++ vrest cd nx) pc ls st H Q
  | [], pc, ls, st, H, h => by
    obtain ⟨rfl, h2⟩ := h
    exact hj _ _ _ _ h2
  | (p, op, npc, a1, a2) :: t, pc, ls, st, H, h => by
    obtain ⟨rfl, h2⟩ := h
    exact wI_ok h2 (fun ls st H q => wB_ok hj hC t npc ls st H q) hj hC
/-- a block of a method, from a place that is jumped to -/
theorem tr_lab {G : zG} {us : Nat} {cd : zK} {D t : Nat} {ls : PL} {st : List pv} {H : PH} {Q : Option pv → PH → Prop} (b : List VE) (nx : Option Nat) (hb : zget cd t = b.map vq ++ vrest cd nx) (hw : wB (fun t ls st H => Tr G us cd (D + 1) (zget cd t) t ls st H Q) Q (Ca G us D) nx b t ls st H) : Tr G us cd (D + 1) (zget cd t) t ls st H Q := by
  rw [hb]
  exact wB_ok (fun _ _ _ _ h => h) (fun _ _ _ _ h => h) b t ls st H hw
