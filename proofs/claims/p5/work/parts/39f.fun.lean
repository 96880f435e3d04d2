/-! ===== answers on top of the checker ===== -/
def wF (J : Nat → PL → List pv → PH → Prop) (Q : Option pv → PH → Prop) (F : Nat → List pv → PH → (Option pv → PH → Prop) → Prop) (p op npc a1 a2 : Nat) (ls : PL) (st : List pv) (H : PH) (k : PL → List pv → PH → Prop) : Prop := match op with
  | 0 => ∃ c, pget ls a1 = some (2, c) ∧ 0 ≤ c + 1 ∧ k ls ((2, c) :: st) H
  | 1 => ∃ x, pget ls a1 = some (0, x) ∧ k ls ((0, x) :: st) H
  | 2 => ∃ x, pget ls a1 = some (1, x) ∧ k ls ((1, x) :: st) H
  | 3 => k1 st (fun v r => kI v (fun x => k (pset ls a1 false (0, x)) r H))
  | 4 => k1 st (fun v r => kR v (fun c => 0 ≤ c + 1 ∧ k (pset ls a1 false (2, c)) r H))
  | 5 => k1 st (fun v r => kL v (fun x => k (pset ls a1 true (1, x)) r H))
  | 6 => ∃ x, pget ls a1 = some (0, x) ∧ k (pset ls a1 false (0, zw (x + (a2 : Int)))) st H
  | 7 => a1 < 4294967296 ∧ k ls ((0, zw (a1 : Int)) :: st) H
  | 8 => a1 < 4294967296 ∧ k ls ((0, zw (a1 : Int)) :: st) H
  | 9 => a1 < 4294967296 ∧ k ls ((0, zw (a1 : Int)) :: st) H
  | 10 => a1 < 4294967296 ∧ k ls ((0, zw (a1 : Int)) :: st) H
  | 11 => a1 < 4294967296 ∧ k ls ((0, zw (a1 : Int)) :: st) H
  | 12 => (a1 : Int) < 18446744073709551616 ∧ k ls ((1, (a1 : Int)) :: st) H
  | 13 => (a1 : Int) < 18446744073709551616 ∧ k ls ((1, (a1 : Int)) :: st) H
  | 14 => k2 st (fun x y r => k ls ((0, zw (x + y)) :: r) H)
  | 15 => k2 st (fun x y r => k ls ((0, zw (x - y)) :: r) H)
  | 16 => k2 st (fun x y r => k ls ((0, zw (x * y)) :: r) H)
  | 17 => k2 st (fun x y r => y ≠ 0 → k ls ((0, q2 (· / ·) x y) :: r) H)
  | 18 => k2 st (fun x y r => y ≠ 0 → k ls ((0, q2 (fun x y => x - x / y * y) x y) :: r) H)
  | 19 => k2 st (fun x y r => k ls ((0, q2 (· &&& ·) x y) :: r) H)
  | 20 => k2 st (fun x y r => k ls ((0, q2 (· ||| ·) x y) :: r) H)
  | 21 => k2 st (fun x y r => k ls ((0, q2 (· ^^^ ·) x y) :: r) H)
  | 22 => k2 st (fun x y r => k ls ((0, q2 (fun x y => x <<< (y &&& 31)) x y) :: r) H)
  | 23 => k2 st (fun x y r => k ls ((0, q2 (fun x y => x >>> (y &&& 31)) x y) :: r) H)
  | 24 => k2 st (fun x y r => k ls ((0, q2 (fun x y => (x.toUInt32 >>> (y.toUInt32 &&& Int32.toUInt32 31)).toInt32) x y) :: r) H)
  | 25 => k1 st (fun v r => kI v (fun x => k ls ((0, q1 (fun x => -x) x) :: r) H))
  | 26 => k1 st (fun v r => kI v (fun x => k ls ((0, q1 (fun x => x.toInt8.toInt32) x) :: r) H))
  | 27 => k1 st (fun v r => kI v (fun x => k ls ((1, qil x) :: r) H))
  | 28 => k1 st (fun v r => kL v (fun x => k ls ((0, qli x) :: r) H))
  | 29 => k1 st (fun v r => kL v (fun y => k1 r (fun v r => kL v (fun x => k ls ((1, qladd x y) :: r) H))))
  | 30 => k1 st (fun v r => kI v (fun y => k1 r (fun v r => kL v (fun x => k ls ((1, qlshl x y) :: r) H))))
  | 31 => k1 st (fun v r => kI v (fun y => k1 r (fun v r => kL v (fun x => k ls ((1, qlushr x y) :: r) H))))
  | 32 => k1 st (fun v r => kL v (fun y => k1 r (fun v r => kL v (fun x => k ls ((0, qlcmp x y) :: r) H))))
  | 33 => k1 st (fun v r => v.1 ≠ 1 ∧ k ls (v :: v :: r) H)
  | 34 => k1 st (fun w r => k1 r (fun v r => v.1 ≠ 1 ∧ w.1 ≠ 1 ∧ k ls (w :: v :: w :: v :: r) H))
  | 35 => k1 st (fun v r => v.1 ≠ 1 ∧ k ls r H)
  | 36 => a1 ≠ npc ∧ J a1 ls st H
  | 37 => k1 st (fun v r => kI v (fun x => a1 ≠ npc ∧ ((x = 0) → J a1 ls r H) ∧ (¬ (x = 0) → k ls r H)))
  | 43 => k2 st (fun x y r => a1 ≠ npc ∧ ((x = y) → J a1 ls r H) ∧ (¬ (x = y) → k ls r H))
  | 38 => k1 st (fun v r => kI v (fun x => a1 ≠ npc ∧ ((¬ x = 0) → J a1 ls r H) ∧ (¬ (¬ x = 0) → k ls r H)))
  | 44 => k2 st (fun x y r => a1 ≠ npc ∧ ((¬ x = y) → J a1 ls r H) ∧ (¬ (¬ x = y) → k ls r H))
  | 39 => k1 st (fun v r => kI v (fun x => a1 ≠ npc ∧ ((x < 0) → J a1 ls r H) ∧ (¬ (x < 0) → k ls r H)))
  | 45 => k2 st (fun x y r => a1 ≠ npc ∧ ((x < y) → J a1 ls r H) ∧ (¬ (x < y) → k ls r H))
  | 40 => k1 st (fun v r => kI v (fun x => a1 ≠ npc ∧ ((0 ≤ x) → J a1 ls r H) ∧ (¬ (0 ≤ x) → k ls r H)))
  | 46 => k2 st (fun x y r => a1 ≠ npc ∧ ((y ≤ x) → J a1 ls r H) ∧ (¬ (y ≤ x) → k ls r H))
  | 41 => k1 st (fun v r => kI v (fun x => a1 ≠ npc ∧ ((0 < x) → J a1 ls r H) ∧ (¬ (0 < x) → k ls r H)))
  | 47 => k2 st (fun x y r => a1 ≠ npc ∧ ((y < x) → J a1 ls r H) ∧ (¬ (y < x) → k ls r H))
  | 42 => k1 st (fun v r => kI v (fun x => a1 ≠ npc ∧ ((x ≤ 0) → J a1 ls r H) ∧ (¬ (x ≤ 0) → k ls r H)))
  | 48 => k2 st (fun x y r => a1 ≠ npc ∧ ((x ≤ y) → J a1 ls r H) ∧ (¬ (x ≤ y) → k ls r H))
  | 49 => k1 st (fun v r => kR v (fun c => 0 ≤ c → c < zNC → (zSh c.toNat).1 = a1 → k ls ((ztg a1 a2, gv H c a2) :: r) H))
  | 50 => k1 st (fun v r => k1 r (fun w r => kR w (fun c => 0 ≤ c → c < zNC → (zSh c.toNat).1 = a1 → k ls r (pup H c ((a2 % 64 : Nat) : Int) v.2))))
  | 51 => k1 st (fun v r => kI v (fun i => k1 r (fun v r => kR v (fun c => 0 ≤ c → c < zNC → (zSh c.toNat).1 = 16 → 0 ≤ i → i < (zSh c.toNat).2.1 → k ls ((0, H c i) :: r) H))))
  | 52 => k1 st (fun v r => kI v (fun x => k1 r (fun v r => kI v (fun i => k1 r (fun v r => kR v (fun c => 0 ≤ c → c < zNC → (zSh c.toNat).1 = 16 → 0 ≤ i → i < (zSh c.toNat).2.1 → k ls r (pup H c i x)))))))
  | 53 => k1 st (fun v r => kI v (fun i => k1 r (fun v r => kR v (fun c => 0 ≤ c → c < zNC → 19 ≤ (zSh c.toNat).1 → 0 ≤ i → i < (zSh c.toNat).2.1 → k ls ((2, gv H c i) :: r) H))))
  | 54 => k1 st (fun v r => kR v (fun c => 0 ≤ c → c < zNC → k ls ((0, ((zSh c.toNat).2.1 : Int)) :: r) H))
  | 55 => k2 st (fun x y r => pcat r ≤ 8 ∧ k ls ((0, if x < y then y else x) :: r) H)
  | 56 => k2 st (fun x y r => pcat r ≤ 8 ∧ k ls ((0, if y < x then y else x) :: r) H)
  | 57 => k1 st (fun v r => kI v (fun i => k1 r (fun v r => kR v (fun c => 0 ≤ c → c < zNC → 0 ≤ i → i < (zSh c.toNat).2.1 → k ls ((0, H c i) :: r) H))))
  | 58 => k1 st (fun v r => kI v (fun x => k1 r (fun v r => kI v (fun i => k1 r (fun v r => kR v (fun c => 0 ≤ c → c < zNC → 0 ≤ i → i < (zSh c.toNat).2.1 → k ls r (pup H c i (qb (zSh c.toNat).1 x))))))))
  | 59 => k1 st (fun v r => kR v (fun d => k1 r (fun v r => kI v (fun i => k1 r (fun v r => kR v (fun c => 0 ≤ c → c < zNC → 0 ≤ i → i < (zSh c.toNat).2.1 → 0 ≤ d → d < zNC → k ls r (pup H c i d)))))))
  | 66 => k1 st (fun v r => kI v (fun x => pcat r ≤ 8 ∧ k ls ((0, if 0 ≤ x then x else zw (0 - x)) :: r) H))
  | 100 => k1 st (fun v r => kI v (fun x => ∃ t, ptsw p 205 0 9 #[56, 75, 83, 104, 123, 134, 145, 156, 175, 186] x = some t ∧ (t ≠ npc → J t ls r H) ∧ (t = npc → k ls r H)))
  | 101 => k1 st (fun v r => kI v (fun x => ∃ t, ptl p (Op.lookupswitch.offset (#[(99, 38), (111, 36), (115, 34)] : Array (Int × Int)).toList 40 x) = some t ∧ (t ≠ npc → J t ls r H) ∧ (t = npc → k ls r H)))
  | 102 => k1 st (fun v r => kI v (fun x => ∃ t, ptl p (Op.lookupswitch.offset (#[(42, 59), (43, 51), (45, 55), (47, 63), (60, 75)] : Array (Int × Int)).toList 81 x) = some t ∧ (t ≠ npc → J t ls r H) ∧ (t = npc → k ls r H)))
  | 103 => k1 st (fun v r => kI v (fun x => ∃ t, ptsw p 189 0 13 #[72, 80, 88, 99, 107, 115, 123, 131, 136, 144, 153, 163, 173, 181] x = some t ∧ (t ≠ npc → J t ls r H) ∧ (t = npc → k ls r H)))
  | 104 => k1 st (fun v r => kI v (fun x => ∃ t, ptsw p 63 0 4 #[35, 40, 45, 53, 58] x = some t ∧ (t ≠ npc → J t ls r H) ∧ (t = npc → k ls r H)))
  | 105 => k1 st (fun v r => kI v (fun x => ∃ t, ptsw p 54 0 3 #[31, 36, 41, 46] x = some t ∧ (t ≠ npc → J t ls r H) ∧ (t = npc → k ls r H)))
  | 106 => k1 st (fun v r => kI v (fun x => ∃ t, ptsw p 85 0 4 #[35, 45, 55, 65, 75] x = some t ∧ (t ≠ npc → J t ls r H) ∧ (t = npc → k ls r H)))
  | 107 => k1 st (fun v r => kI v (fun x => ∃ t, ptsw p 141 0 8 #[49, 59, 69, 79, 92, 102, 112, 122, 132] x = some t ∧ (t ≠ npc → J t ls r H) ∧ (t = npc → k ls r H)))
  | 108 => k1 st (fun v r => kI v (fun x => ∃ t, ptsw p 79 0 5 #[39, 39, 49, 49, 61, 70] x = some t ∧ (t ≠ npc → J t ls r H) ∧ (t = npc → k ls r H)))
  | 109 => k1 st (fun v r => kI v (fun x => ∃ t, ptl p (Op.lookupswitch.offset (#[(42, 59), (43, 51), (45, 55), (47, 63), (60, 75)] : Array (Int × Int)).toList 86 x) = some t ∧ (t ≠ npc → J t ls r H) ∧ (t = npc → k ls r H)))
  | 110 => k1 st (fun v r => kI v (fun x => ∃ t, ptsw p 168 0 13 #[71, 78, 85, 92, 101, 108, 115, 122, 127, 132, 138, 145, 152, 160] x = some t ∧ (t ≠ npc → J t ls r H) ∧ (t = npc → k ls r H)))
  | 111 => k1 st (fun v r => kI v (fun x => ∃ t, ptsw p 85 0 4 #[36, 46, 56, 65, 75] x = some t ∧ (t ≠ npc → J t ls r H) ∧ (t = npc → k ls r H)))
  | 112 => k1 st (fun v r => kI v (fun x => ∃ t, ptsw p 68 0 3 #[32, 41, 50, 59] x = some t ∧ (t ≠ npc → J t ls r H) ∧ (t = npc → k ls r H)))
  | 113 => k1 st (fun v r => kI v (fun x => ∃ t, ptsw p 122 0 7 #[47, 54, 61, 68, 74, 91, 108, 115] x = some t ∧ (t ≠ npc → J t ls r H) ∧ (t = npc → k ls r H)))
  | 60 => F a1 (st.take a2).reverse H (fun r H2 => k ls (ppush r (st.drop a2)) H2)
  | 61 => F a1 (st.take (a2 % 16)).reverse H (fun r H2 => k ls (ppush r (st.drop (a2 % 16))) H2)
  | 62 => k1 st (fun v r => kI v (fun x => r = [] ∧ Q (some (0, x)) H))
  | 63 => k1 st (fun v r => kR v (fun x => r = [] ∧ Q (some (2, x)) H))
  | 64 => k1 st (fun v r => kL v (fun x => r = [] ∧ Q (some (1, x)) H))
  | 65 => st = [] ∧ Q none H
  | _ => False
section WF
variable {J J1 J2 : Nat → PL → List pv → PH → Prop} {Q Q1 Q2 : Option pv → PH → Prop} {C C1 F : Nat → List pv → PH → (Option pv → PH → Prop) → Prop} {k k1' k2' : PL → List pv → PH → Prop} {p op npc a1 a2 : Nat} {ls : PL} {st : List pv} {H : PH}
theorem wI_C (h0 : op ≠ 60) (h1 : op ≠ 61) (h : wI J Q C p op npc a1 a2 ls st H k) : wI J Q C1 p op npc a1 a2 ls st H k := by
  match op, h0, h1, h with
  | 0, _, _, h => exact h
  | 1, _, _, h => exact h
  | 2, _, _, h => exact h
  | 3, _, _, h => exact h
  | 4, _, _, h => exact h
  | 5, _, _, h => exact h
  | 6, _, _, h => exact h
  | 7, _, _, h => exact h
  | 8, _, _, h => exact h
  | 9, _, _, h => exact h
  | 10, _, _, h => exact h
  | 11, _, _, h => exact h
  | 12, _, _, h => exact h
  | 13, _, _, h => exact h
  | 14, _, _, h => exact h
  | 15, _, _, h => exact h
  | 16, _, _, h => exact h
  | 17, _, _, h => exact h
  | 18, _, _, h => exact h
  | 19, _, _, h => exact h
  | 20, _, _, h => exact h
  | 21, _, _, h => exact h
  | 22, _, _, h => exact h
  | 23, _, _, h => exact h
  | 24, _, _, h => exact h
  | 25, _, _, h => exact h
  | 26, _, _, h => exact h
  | 27, _, _, h => exact h
  | 28, _, _, h => exact h
  | 29, _, _, h => exact h
  | 30, _, _, h => exact h
  | 31, _, _, h => exact h
  | 32, _, _, h => exact h
  | 33, _, _, h => exact h
  | 34, _, _, h => exact h
  | 35, _, _, h => exact h
  | 36, _, _, h => exact h
  | 37, _, _, h => exact h
  | 43, _, _, h => exact h
  | 38, _, _, h => exact h
  | 44, _, _, h => exact h
  | 39, _, _, h => exact h
  | 45, _, _, h => exact h
  | 40, _, _, h => exact h
  | 46, _, _, h => exact h
  | 41, _, _, h => exact h
  | 47, _, _, h => exact h
  | 42, _, _, h => exact h
  | 48, _, _, h => exact h
  | 49, _, _, h => exact h
  | 50, _, _, h => exact h
  | 51, _, _, h => exact h
  | 52, _, _, h => exact h
  | 53, _, _, h => exact h
  | 54, _, _, h => exact h
  | 55, _, _, h => exact h
  | 56, _, _, h => exact h
  | 57, _, _, h => exact h
  | 58, _, _, h => exact h
  | 59, _, _, h => exact h
  | 66, _, _, h => exact h
  | 100, _, _, h => exact h
  | 101, _, _, h => exact h
  | 102, _, _, h => exact h
  | 103, _, _, h => exact h
  | 104, _, _, h => exact h
  | 105, _, _, h => exact h
  | 106, _, _, h => exact h
  | 107, _, _, h => exact h
  | 108, _, _, h => exact h
  | 109, _, _, h => exact h
  | 110, _, _, h => exact h
  | 111, _, _, h => exact h
  | 112, _, _, h => exact h
  | 113, _, _, h => exact h
  | 60, h0, h1, h => exact absurd rfl h0
  | 61, h0, h1, h => exact absurd rfl h1
  | 62, _, _, h => exact h
  | 63, _, _, h => exact h
  | 64, _, _, h => exact h
  | 65, _, _, h => exact h
  | 67, _, _, h => exact h
  | 68, _, _, h => exact h
  | 69, _, _, h => exact h
  | 70, _, _, h => exact h
  | 71, _, _, h => exact h
  | 72, _, _, h => exact h
  | 73, _, _, h => exact h
  | 74, _, _, h => exact h
  | 75, _, _, h => exact h
  | 76, _, _, h => exact h
  | 77, _, _, h => exact h
  | 78, _, _, h => exact h
  | 79, _, _, h => exact h
  | 80, _, _, h => exact h
  | 81, _, _, h => exact h
  | 82, _, _, h => exact h
  | 83, _, _, h => exact h
  | 84, _, _, h => exact h
  | 85, _, _, h => exact h
  | 86, _, _, h => exact h
  | 87, _, _, h => exact h
  | 88, _, _, h => exact h
  | 89, _, _, h => exact h
  | 90, _, _, h => exact h
  | 91, _, _, h => exact h
  | 92, _, _, h => exact h
  | 93, _, _, h => exact h
  | 94, _, _, h => exact h
  | 95, _, _, h => exact h
  | 96, _, _, h => exact h
  | 97, _, _, h => exact h
  | 98, _, _, h => exact h
  | 99, _, _, h => exact h
  | n + 114, _, _, h => exact h
theorem wI_and (hC : ∀ mj as H K1 K2, C1 mj as H K1 → F mj as H K2 → C mj as H (fun r H => K1 r H ∧ K2 r H)) (h1 : wI J1 Q1 C1 p op npc a1 a2 ls st H k1') (h2 : wF J2 Q2 F p op npc a1 a2 ls st H k2') : wI (fun t ls st H => J1 t ls st H ∧ J2 t ls st H) (fun r H => Q1 r H ∧ Q2 r H) C p op npc a1 a2 ls st H (fun ls st H => k1' ls st H ∧ k2' ls st H) := by
  match op, h1, h2 with
  | 0, h1, h2 => obtain ⟨x, e, w, u⟩ := h1; obtain ⟨y, e', w', v⟩ := h2; rw [e] at e'; cases e'; exact ⟨x, e, w, u, v⟩
  | 1, h1, h2 => obtain ⟨x, e, u⟩ := h1; obtain ⟨y, e', v⟩ := h2; rw [e] at e'; cases e'; exact ⟨x, e, u, v⟩
  | 2, h1, h2 => obtain ⟨x, e, u⟩ := h1; obtain ⟨y, e', v⟩ := h2; rw [e] at e'; cases e'; exact ⟨x, e, u, v⟩
  | 3, h1, h2 => obtain ⟨x, r, rfl, u⟩ := k1_I h1; exact ⟨rfl, u, h2.2⟩
  | 4, h1, h2 => obtain ⟨x, r, rfl, w, u⟩ := k1_R h1; exact ⟨rfl, w, u, h2.2.2⟩
  | 5, h1, h2 => obtain ⟨x, r, rfl, u⟩ := k1_L h1; exact ⟨rfl, u, h2.2⟩
  | 6, h1, h2 => obtain ⟨x, e, u⟩ := h1; obtain ⟨y, e', v⟩ := h2; rw [e] at e'; cases e'; exact ⟨x, e, u, v⟩
  | 7, h1, h2 => exact ⟨h1.1, h1.2, h2.2⟩
  | 8, h1, h2 => exact ⟨h1.1, h1.2, h2.2⟩
  | 9, h1, h2 => exact ⟨h1.1, h1.2, h2.2⟩
  | 10, h1, h2 => exact ⟨h1.1, h1.2, h2.2⟩
  | 11, h1, h2 => exact ⟨h1.1, h1.2, h2.2⟩
  | 12, h1, h2 => exact ⟨h1.1, h1.2, h2.2⟩
  | 13, h1, h2 => exact ⟨h1.1, h1.2, h2.2⟩
  | 14, h1, h2 => obtain ⟨x, y, r, rfl, u⟩ := k2_I h1; exact ⟨rfl, rfl, u, h2.2.2⟩
  | 15, h1, h2 => obtain ⟨x, y, r, rfl, u⟩ := k2_I h1; exact ⟨rfl, rfl, u, h2.2.2⟩
  | 16, h1, h2 => obtain ⟨x, y, r, rfl, u⟩ := k2_I h1; exact ⟨rfl, rfl, u, h2.2.2⟩
  | 17, h1, h2 => obtain ⟨x, y, r, rfl, w, u⟩ := k2_I h1; exact ⟨rfl, rfl, w, u, h2.2.2 w⟩
  | 18, h1, h2 => obtain ⟨x, y, r, rfl, w, u⟩ := k2_I h1; exact ⟨rfl, rfl, w, u, h2.2.2 w⟩
  | 19, h1, h2 => obtain ⟨x, y, r, rfl, u⟩ := k2_I h1; exact ⟨rfl, rfl, u, h2.2.2⟩
  | 20, h1, h2 => obtain ⟨x, y, r, rfl, u⟩ := k2_I h1; exact ⟨rfl, rfl, u, h2.2.2⟩
  | 21, h1, h2 => obtain ⟨x, y, r, rfl, u⟩ := k2_I h1; exact ⟨rfl, rfl, u, h2.2.2⟩
  | 22, h1, h2 => obtain ⟨x, y, r, rfl, u⟩ := k2_I h1; exact ⟨rfl, rfl, u, h2.2.2⟩
  | 23, h1, h2 => obtain ⟨x, y, r, rfl, u⟩ := k2_I h1; exact ⟨rfl, rfl, u, h2.2.2⟩
  | 24, h1, h2 => obtain ⟨x, y, r, rfl, u⟩ := k2_I h1; exact ⟨rfl, rfl, u, h2.2.2⟩
  | 25, h1, h2 => obtain ⟨x, r, rfl, u⟩ := k1_I h1; exact ⟨rfl, u, h2.2⟩
  | 26, h1, h2 => obtain ⟨x, r, rfl, u⟩ := k1_I h1; exact ⟨rfl, u, h2.2⟩
  | 27, h1, h2 => obtain ⟨x, r, rfl, u⟩ := k1_I h1; exact ⟨rfl, u, h2.2⟩
  | 28, h1, h2 => obtain ⟨x, r, rfl, u⟩ := k1_L h1; exact ⟨rfl, u, h2.2⟩
  | 29, h1, h2 => obtain ⟨y, r, rfl, h3⟩ := k1_L h1; obtain ⟨x, r, rfl, u⟩ := k1_L h3; exact ⟨rfl, rfl, u, h2.2.2⟩
  | 30, h1, h2 => obtain ⟨y, r, rfl, h3⟩ := k1_I h1; obtain ⟨x, r, rfl, u⟩ := k1_L h3; exact ⟨rfl, rfl, u, h2.2.2⟩
  | 31, h1, h2 => obtain ⟨y, r, rfl, h3⟩ := k1_I h1; obtain ⟨x, r, rfl, u⟩ := k1_L h3; exact ⟨rfl, rfl, u, h2.2.2⟩
  | 32, h1, h2 => obtain ⟨y, r, rfl, h3⟩ := k1_L h1; obtain ⟨x, r, rfl, u⟩ := k1_L h3; exact ⟨rfl, rfl, u, h2.2.2⟩
  | 33, h1, h2 => obtain ⟨x, r, rfl, w, u⟩ := k1_v h1; exact ⟨w, u, h2.2⟩
  | 34, h1, h2 => obtain ⟨x, r, rfl, h3⟩ := k1_v h1; obtain ⟨y, r, rfl, w, w2, u⟩ := k1_v h3; exact ⟨w, w2, u, h2.2.2⟩
  | 35, h1, h2 => obtain ⟨x, r, rfl, w, u⟩ := k1_v h1; exact ⟨w, u, h2.2⟩
  | 36, h1, h2 => exact ⟨h1.1, h1.2, h2.2⟩
  | 37, h1, h2 => obtain ⟨x, r, rfl, w, u, v⟩ := k1_I h1; exact ⟨rfl, w, fun q => ⟨u q, h2.2.2.1 q⟩, fun q => ⟨v q, h2.2.2.2 q⟩⟩
  | 43, h1, h2 => obtain ⟨x, y, r, rfl, w, u, v⟩ := k2_I h1; exact ⟨rfl, rfl, w, fun q => ⟨u q, h2.2.2.2.1 q⟩, fun q => ⟨v q, h2.2.2.2.2 q⟩⟩
  | 38, h1, h2 => obtain ⟨x, r, rfl, w, u, v⟩ := k1_I h1; exact ⟨rfl, w, fun q => ⟨u q, h2.2.2.1 q⟩, fun q => ⟨v q, h2.2.2.2 q⟩⟩
  | 44, h1, h2 => obtain ⟨x, y, r, rfl, w, u, v⟩ := k2_I h1; exact ⟨rfl, rfl, w, fun q => ⟨u q, h2.2.2.2.1 q⟩, fun q => ⟨v q, h2.2.2.2.2 q⟩⟩
  | 39, h1, h2 => obtain ⟨x, r, rfl, w, u, v⟩ := k1_I h1; exact ⟨rfl, w, fun q => ⟨u q, h2.2.2.1 q⟩, fun q => ⟨v q, h2.2.2.2 q⟩⟩
  | 45, h1, h2 => obtain ⟨x, y, r, rfl, w, u, v⟩ := k2_I h1; exact ⟨rfl, rfl, w, fun q => ⟨u q, h2.2.2.2.1 q⟩, fun q => ⟨v q, h2.2.2.2.2 q⟩⟩
  | 40, h1, h2 => obtain ⟨x, r, rfl, w, u, v⟩ := k1_I h1; exact ⟨rfl, w, fun q => ⟨u q, h2.2.2.1 q⟩, fun q => ⟨v q, h2.2.2.2 q⟩⟩
  | 46, h1, h2 => obtain ⟨x, y, r, rfl, w, u, v⟩ := k2_I h1; exact ⟨rfl, rfl, w, fun q => ⟨u q, h2.2.2.2.1 q⟩, fun q => ⟨v q, h2.2.2.2.2 q⟩⟩
  | 41, h1, h2 => obtain ⟨x, r, rfl, w, u, v⟩ := k1_I h1; exact ⟨rfl, w, fun q => ⟨u q, h2.2.2.1 q⟩, fun q => ⟨v q, h2.2.2.2 q⟩⟩
  | 47, h1, h2 => obtain ⟨x, y, r, rfl, w, u, v⟩ := k2_I h1; exact ⟨rfl, rfl, w, fun q => ⟨u q, h2.2.2.2.1 q⟩, fun q => ⟨v q, h2.2.2.2.2 q⟩⟩
  | 42, h1, h2 => obtain ⟨x, r, rfl, w, u, v⟩ := k1_I h1; exact ⟨rfl, w, fun q => ⟨u q, h2.2.2.1 q⟩, fun q => ⟨v q, h2.2.2.2 q⟩⟩
  | 48, h1, h2 => obtain ⟨x, y, r, rfl, w, u, v⟩ := k2_I h1; exact ⟨rfl, rfl, w, fun q => ⟨u q, h2.2.2.2.1 q⟩, fun q => ⟨v q, h2.2.2.2.2 q⟩⟩
  | 49, h1, h2 => obtain ⟨c, r, rfl, w, e, n, z, u⟩ := k1_R h1; exact ⟨rfl, w, e, n, z, u, h2.2 w.1 w.2 e⟩
  | 50, h1, h2 => obtain ⟨x, r, rfl, h3⟩ := k1_v h1; obtain ⟨c, r, rfl, w, e, a, b, d, f, g, u⟩ := k1_R h3; exact ⟨rfl, w, e, a, b, d, f, g, u, h2.2 w.1 w.2 e⟩
  | 51, h1, h2 => obtain ⟨i, r, rfl, h3⟩ := k1_I h1; obtain ⟨c, r, rfl, w, e, b, u⟩ := k1_R h3; exact ⟨rfl, rfl, w, e, b, u, h2.2.2 w.1 w.2 e b.1 b.2⟩
  | 52, h1, h2 => obtain ⟨x, r, rfl, h3⟩ := k1_I h1; obtain ⟨i, r, rfl, h4⟩ := k1_I h3; obtain ⟨c, r, rfl, w, e, b, u⟩ := k1_R h4; exact ⟨rfl, rfl, rfl, w, e, b, u, h2.2.2.2 w.1 w.2 e b.1 b.2⟩
  | 53, h1, h2 => obtain ⟨i, r, rfl, h3⟩ := k1_I h1; obtain ⟨c, r, rfl, w, e, b, f, u⟩ := k1_R h3; exact ⟨rfl, rfl, w, e, b, f, u, h2.2.2 w.1 w.2 e b.1 b.2⟩
  | 54, h1, h2 => obtain ⟨c, r, rfl, w, e, u⟩ := k1_R h1; exact ⟨rfl, w, e, u, h2.2 w.1 w.2⟩
  | 55, h1, h2 => obtain ⟨x, y, r, rfl, w, u⟩ := k2_I h1; exact ⟨rfl, rfl, w, u, h2.2.2.2⟩
  | 56, h1, h2 => obtain ⟨x, y, r, rfl, w, u⟩ := k2_I h1; exact ⟨rfl, rfl, w, u, h2.2.2.2⟩
  | 57, h1, h2 => obtain ⟨i, r, rfl, h3⟩ := k1_I h1; obtain ⟨c, r, rfl, w, e, b, u⟩ := k1_R h3; exact ⟨rfl, rfl, w, e, b, u, h2.2.2 w.1 w.2 b.1 b.2⟩
  | 58, h1, h2 => obtain ⟨x, r, rfl, h3⟩ := k1_I h1; obtain ⟨i, r, rfl, h4⟩ := k1_I h3; obtain ⟨c, r, rfl, w, e, b, u⟩ := k1_R h4; exact ⟨rfl, rfl, rfl, w, e, b, u, h2.2.2.2 w.1 w.2 b.1 b.2⟩
  | 59, h1, h2 => obtain ⟨d, r, rfl, h3⟩ := k1_R h1; obtain ⟨i, r, rfl, h4⟩ := k1_I h3; obtain ⟨c, r, rfl, w, e, b, f, g, n, u⟩ := k1_R h4; exact ⟨rfl, rfl, rfl, w, e, b, f, g, n, u, h2.2.2.2 w.1 w.2 b.1 b.2 f.1 f.2⟩
  | 66, h1, h2 => obtain ⟨x, r, rfl, w, u⟩ := k1_I h1; exact ⟨rfl, w, u, h2.2.2⟩
  | 100, h1, h2 => obtain ⟨x, r, rfl, t, e, u, v⟩ := k1_I h1; obtain ⟨_, t', e', u', v'⟩ := h2; have q : some t = some t' := e.symm.trans e'; cases q; exact ⟨rfl, t, e, fun q => ⟨u q, u' q⟩, fun q => ⟨v q, v' q⟩⟩
  | 101, h1, h2 => obtain ⟨x, r, rfl, t, e, u, v⟩ := k1_I h1; obtain ⟨_, t', e', u', v'⟩ := h2; have q : some t = some t' := e.symm.trans e'; cases q; exact ⟨rfl, t, e, fun q => ⟨u q, u' q⟩, fun q => ⟨v q, v' q⟩⟩
  | 102, h1, h2 => obtain ⟨x, r, rfl, t, e, u, v⟩ := k1_I h1; obtain ⟨_, t', e', u', v'⟩ := h2; have q : some t = some t' := e.symm.trans e'; cases q; exact ⟨rfl, t, e, fun q => ⟨u q, u' q⟩, fun q => ⟨v q, v' q⟩⟩
  | 103, h1, h2 => obtain ⟨x, r, rfl, t, e, u, v⟩ := k1_I h1; obtain ⟨_, t', e', u', v'⟩ := h2; have q : some t = some t' := e.symm.trans e'; cases q; exact ⟨rfl, t, e, fun q => ⟨u q, u' q⟩, fun q => ⟨v q, v' q⟩⟩
  | 104, h1, h2 => obtain ⟨x, r, rfl, t, e, u, v⟩ := k1_I h1; obtain ⟨_, t', e', u', v'⟩ := h2; have q : some t = some t' := e.symm.trans e'; cases q; exact ⟨rfl, t, e, fun q => ⟨u q, u' q⟩, fun q => ⟨v q, v' q⟩⟩
  | 105, h1, h2 => obtain ⟨x, r, rfl, t, e, u, v⟩ := k1_I h1; obtain ⟨_, t', e', u', v'⟩ := h2; have q : some t = some t' := e.symm.trans e'; cases q; exact ⟨rfl, t, e, fun q => ⟨u q, u' q⟩, fun q => ⟨v q, v' q⟩⟩
  | 106, h1, h2 => obtain ⟨x, r, rfl, t, e, u, v⟩ := k1_I h1; obtain ⟨_, t', e', u', v'⟩ := h2; have q : some t = some t' := e.symm.trans e'; cases q; exact ⟨rfl, t, e, fun q => ⟨u q, u' q⟩, fun q => ⟨v q, v' q⟩⟩
  | 107, h1, h2 => obtain ⟨x, r, rfl, t, e, u, v⟩ := k1_I h1; obtain ⟨_, t', e', u', v'⟩ := h2; have q : some t = some t' := e.symm.trans e'; cases q; exact ⟨rfl, t, e, fun q => ⟨u q, u' q⟩, fun q => ⟨v q, v' q⟩⟩
  | 108, h1, h2 => obtain ⟨x, r, rfl, t, e, u, v⟩ := k1_I h1; obtain ⟨_, t', e', u', v'⟩ := h2; have q : some t = some t' := e.symm.trans e'; cases q; exact ⟨rfl, t, e, fun q => ⟨u q, u' q⟩, fun q => ⟨v q, v' q⟩⟩
  | 109, h1, h2 => obtain ⟨x, r, rfl, t, e, u, v⟩ := k1_I h1; obtain ⟨_, t', e', u', v'⟩ := h2; have q : some t = some t' := e.symm.trans e'; cases q; exact ⟨rfl, t, e, fun q => ⟨u q, u' q⟩, fun q => ⟨v q, v' q⟩⟩
  | 110, h1, h2 => obtain ⟨x, r, rfl, t, e, u, v⟩ := k1_I h1; obtain ⟨_, t', e', u', v'⟩ := h2; have q : some t = some t' := e.symm.trans e'; cases q; exact ⟨rfl, t, e, fun q => ⟨u q, u' q⟩, fun q => ⟨v q, v' q⟩⟩
  | 111, h1, h2 => obtain ⟨x, r, rfl, t, e, u, v⟩ := k1_I h1; obtain ⟨_, t', e', u', v'⟩ := h2; have q : some t = some t' := e.symm.trans e'; cases q; exact ⟨rfl, t, e, fun q => ⟨u q, u' q⟩, fun q => ⟨v q, v' q⟩⟩
  | 112, h1, h2 => obtain ⟨x, r, rfl, t, e, u, v⟩ := k1_I h1; obtain ⟨_, t', e', u', v'⟩ := h2; have q : some t = some t' := e.symm.trans e'; cases q; exact ⟨rfl, t, e, fun q => ⟨u q, u' q⟩, fun q => ⟨v q, v' q⟩⟩
  | 113, h1, h2 => obtain ⟨x, r, rfl, t, e, u, v⟩ := k1_I h1; obtain ⟨_, t', e', u', v'⟩ := h2; have q : some t = some t' := e.symm.trans e'; cases q; exact ⟨rfl, t, e, fun q => ⟨u q, u' q⟩, fun q => ⟨v q, v' q⟩⟩
  | 60, h1, h2 => obtain ⟨a, b, c, d, e⟩ := h1; exact ⟨a, b, c, d, hC _ _ _ _ _ e h2⟩
  | 61, h1, h2 => obtain ⟨a, b, c, d, e⟩ := h1; obtain ⟨x, r, hr, w, z, u⟩ := k1_R e; have h2 : F a1 (st.take (a2 % 16)).reverse H _ := h2; rw [hr] at h2; refine ⟨a, b, c, d, ?_⟩; rw [hr]; exact ⟨rfl, w, z, hC _ _ _ _ _ u h2⟩
  | 62, h1, h2 => obtain ⟨x, r, rfl, e, z, u⟩ := k1_I h1; exact ⟨rfl, e, z, u, h2.2.2⟩
  | 63, h1, h2 => obtain ⟨x, r, rfl, e, z, u⟩ := k1_R h1; exact ⟨rfl, e, z, u, h2.2.2⟩
  | 64, h1, h2 => obtain ⟨x, r, rfl, e, u⟩ := k1_L h1; exact ⟨rfl, e, u, h2.2.2⟩
  | 65, h1, h2 => exact ⟨h1.1, h1.2, h2.2⟩
  | 67, h1, h2 => exact h1.elim
  | 68, h1, h2 => exact h1.elim
  | 69, h1, h2 => exact h1.elim
  | 70, h1, h2 => exact h1.elim
  | 71, h1, h2 => exact h1.elim
  | 72, h1, h2 => exact h1.elim
  | 73, h1, h2 => exact h1.elim
  | 74, h1, h2 => exact h1.elim
  | 75, h1, h2 => exact h1.elim
  | 76, h1, h2 => exact h1.elim
  | 77, h1, h2 => exact h1.elim
  | 78, h1, h2 => exact h1.elim
  | 79, h1, h2 => exact h1.elim
  | 80, h1, h2 => exact h1.elim
  | 81, h1, h2 => exact h1.elim
  | 82, h1, h2 => exact h1.elim
  | 83, h1, h2 => exact h1.elim
  | 84, h1, h2 => exact h1.elim
  | 85, h1, h2 => exact h1.elim
  | 86, h1, h2 => exact h1.elim
  | 87, h1, h2 => exact h1.elim
  | 88, h1, h2 => exact h1.elim
  | 89, h1, h2 => exact h1.elim
  | 90, h1, h2 => exact h1.elim
  | 91, h1, h2 => exact h1.elim
  | 92, h1, h2 => exact h1.elim
  | 93, h1, h2 => exact h1.elim
  | 94, h1, h2 => exact h1.elim
  | 95, h1, h2 => exact h1.elim
  | 96, h1, h2 => exact h1.elim
  | 97, h1, h2 => exact h1.elim
  | 98, h1, h2 => exact h1.elim
  | 99, h1, h2 => exact h1.elim
  | n + 114, h1, h2 => exact (show False from h1).elim
theorem wI_mono {k k' : PL → List pv → PH → Prop} (hk : ∀ ls st H, k ls st H → k' ls st H) (hCm : ∀ mj as H (K K' : Option pv → PH → Prop), (∀ r H, K r H → K' r H) → C mj as H K → C mj as H K') (h : wI J Q C p op npc a1 a2 ls st H k) : wI J Q C p op npc a1 a2 ls st H k' := by
  match op, h with
  | 0, h => obtain ⟨x, e, w, u⟩ := h; exact ⟨x, e, w, hk _ _ _ u⟩
  | 1, h => obtain ⟨x, e, u⟩ := h; exact ⟨x, e, hk _ _ _ u⟩
  | 2, h => obtain ⟨x, e, u⟩ := h; exact ⟨x, e, hk _ _ _ u⟩
  | 3, h => obtain ⟨x, r, rfl, u⟩ := k1_I h; exact ⟨rfl, hk _ _ _ u⟩
  | 4, h => obtain ⟨x, r, rfl, w, u⟩ := k1_R h; exact ⟨rfl, w, hk _ _ _ u⟩
  | 5, h => obtain ⟨x, r, rfl, u⟩ := k1_L h; exact ⟨rfl, hk _ _ _ u⟩
  | 6, h => obtain ⟨x, e, u⟩ := h; exact ⟨x, e, hk _ _ _ u⟩
  | 7, h => exact ⟨h.1, hk _ _ _ h.2⟩
  | 8, h => exact ⟨h.1, hk _ _ _ h.2⟩
  | 9, h => exact ⟨h.1, hk _ _ _ h.2⟩
  | 10, h => exact ⟨h.1, hk _ _ _ h.2⟩
  | 11, h => exact ⟨h.1, hk _ _ _ h.2⟩
  | 12, h => exact ⟨h.1, hk _ _ _ h.2⟩
  | 13, h => exact ⟨h.1, hk _ _ _ h.2⟩
  | 14, h => obtain ⟨x, y, r, rfl, u⟩ := k2_I h; exact ⟨rfl, rfl, hk _ _ _ u⟩
  | 15, h => obtain ⟨x, y, r, rfl, u⟩ := k2_I h; exact ⟨rfl, rfl, hk _ _ _ u⟩
  | 16, h => obtain ⟨x, y, r, rfl, u⟩ := k2_I h; exact ⟨rfl, rfl, hk _ _ _ u⟩
  | 17, h => obtain ⟨x, y, r, rfl, w, u⟩ := k2_I h; exact ⟨rfl, rfl, w, hk _ _ _ u⟩
  | 18, h => obtain ⟨x, y, r, rfl, w, u⟩ := k2_I h; exact ⟨rfl, rfl, w, hk _ _ _ u⟩
  | 19, h => obtain ⟨x, y, r, rfl, u⟩ := k2_I h; exact ⟨rfl, rfl, hk _ _ _ u⟩
  | 20, h => obtain ⟨x, y, r, rfl, u⟩ := k2_I h; exact ⟨rfl, rfl, hk _ _ _ u⟩
  | 21, h => obtain ⟨x, y, r, rfl, u⟩ := k2_I h; exact ⟨rfl, rfl, hk _ _ _ u⟩
  | 22, h => obtain ⟨x, y, r, rfl, u⟩ := k2_I h; exact ⟨rfl, rfl, hk _ _ _ u⟩
  | 23, h => obtain ⟨x, y, r, rfl, u⟩ := k2_I h; exact ⟨rfl, rfl, hk _ _ _ u⟩
  | 24, h => obtain ⟨x, y, r, rfl, u⟩ := k2_I h; exact ⟨rfl, rfl, hk _ _ _ u⟩
  | 25, h => obtain ⟨x, r, rfl, u⟩ := k1_I h; exact ⟨rfl, hk _ _ _ u⟩
  | 26, h => obtain ⟨x, r, rfl, u⟩ := k1_I h; exact ⟨rfl, hk _ _ _ u⟩
  | 27, h => obtain ⟨x, r, rfl, u⟩ := k1_I h; exact ⟨rfl, hk _ _ _ u⟩
  | 28, h => obtain ⟨x, r, rfl, u⟩ := k1_L h; exact ⟨rfl, hk _ _ _ u⟩
  | 29, h => obtain ⟨y, r, rfl, h3⟩ := k1_L h; obtain ⟨x, r, rfl, u⟩ := k1_L h3; exact ⟨rfl, rfl, hk _ _ _ u⟩
  | 30, h => obtain ⟨y, r, rfl, h3⟩ := k1_I h; obtain ⟨x, r, rfl, u⟩ := k1_L h3; exact ⟨rfl, rfl, hk _ _ _ u⟩
  | 31, h => obtain ⟨y, r, rfl, h3⟩ := k1_I h; obtain ⟨x, r, rfl, u⟩ := k1_L h3; exact ⟨rfl, rfl, hk _ _ _ u⟩
  | 32, h => obtain ⟨y, r, rfl, h3⟩ := k1_L h; obtain ⟨x, r, rfl, u⟩ := k1_L h3; exact ⟨rfl, rfl, hk _ _ _ u⟩
  | 33, h => obtain ⟨x, r, rfl, w, u⟩ := k1_v h; exact ⟨w, hk _ _ _ u⟩
  | 34, h => obtain ⟨x, r, rfl, h3⟩ := k1_v h; obtain ⟨y, r, rfl, w, w2, u⟩ := k1_v h3; exact ⟨w, w2, hk _ _ _ u⟩
  | 35, h => obtain ⟨x, r, rfl, w, u⟩ := k1_v h; exact ⟨w, hk _ _ _ u⟩
  | 36, h => exact h
  | 37, h => obtain ⟨x, r, rfl, w, u, v⟩ := k1_I h; exact ⟨rfl, w, u, fun q => hk _ _ _ (v q)⟩
  | 43, h => obtain ⟨x, y, r, rfl, w, u, v⟩ := k2_I h; exact ⟨rfl, rfl, w, u, fun q => hk _ _ _ (v q)⟩
  | 38, h => obtain ⟨x, r, rfl, w, u, v⟩ := k1_I h; exact ⟨rfl, w, u, fun q => hk _ _ _ (v q)⟩
  | 44, h => obtain ⟨x, y, r, rfl, w, u, v⟩ := k2_I h; exact ⟨rfl, rfl, w, u, fun q => hk _ _ _ (v q)⟩
  | 39, h => obtain ⟨x, r, rfl, w, u, v⟩ := k1_I h; exact ⟨rfl, w, u, fun q => hk _ _ _ (v q)⟩
  | 45, h => obtain ⟨x, y, r, rfl, w, u, v⟩ := k2_I h; exact ⟨rfl, rfl, w, u, fun q => hk _ _ _ (v q)⟩
  | 40, h => obtain ⟨x, r, rfl, w, u, v⟩ := k1_I h; exact ⟨rfl, w, u, fun q => hk _ _ _ (v q)⟩
  | 46, h => obtain ⟨x, y, r, rfl, w, u, v⟩ := k2_I h; exact ⟨rfl, rfl, w, u, fun q => hk _ _ _ (v q)⟩
  | 41, h => obtain ⟨x, r, rfl, w, u, v⟩ := k1_I h; exact ⟨rfl, w, u, fun q => hk _ _ _ (v q)⟩
  | 47, h => obtain ⟨x, y, r, rfl, w, u, v⟩ := k2_I h; exact ⟨rfl, rfl, w, u, fun q => hk _ _ _ (v q)⟩
  | 42, h => obtain ⟨x, r, rfl, w, u, v⟩ := k1_I h; exact ⟨rfl, w, u, fun q => hk _ _ _ (v q)⟩
  | 48, h => obtain ⟨x, y, r, rfl, w, u, v⟩ := k2_I h; exact ⟨rfl, rfl, w, u, fun q => hk _ _ _ (v q)⟩
  | 49, h => obtain ⟨c, r, rfl, w, e, n, z, u⟩ := k1_R h; exact ⟨rfl, w, e, n, z, hk _ _ _ u⟩
  | 50, h => obtain ⟨x, r, rfl, h3⟩ := k1_v h; obtain ⟨c, r, rfl, w, e, a, b, d, f, g, u⟩ := k1_R h3; exact ⟨rfl, w, e, a, b, d, f, g, hk _ _ _ u⟩
  | 51, h => obtain ⟨i, r, rfl, h3⟩ := k1_I h; obtain ⟨c, r, rfl, w, e, b, u⟩ := k1_R h3; exact ⟨rfl, rfl, w, e, b, hk _ _ _ u⟩
  | 52, h => obtain ⟨x, r, rfl, h3⟩ := k1_I h; obtain ⟨i, r, rfl, h4⟩ := k1_I h3; obtain ⟨c, r, rfl, w, e, b, u⟩ := k1_R h4; exact ⟨rfl, rfl, rfl, w, e, b, hk _ _ _ u⟩
  | 53, h => obtain ⟨i, r, rfl, h3⟩ := k1_I h; obtain ⟨c, r, rfl, w, e, b, f, u⟩ := k1_R h3; exact ⟨rfl, rfl, w, e, b, f, hk _ _ _ u⟩
  | 54, h => obtain ⟨c, r, rfl, w, e, u⟩ := k1_R h; exact ⟨rfl, w, e, hk _ _ _ u⟩
  | 55, h => obtain ⟨x, y, r, rfl, w, u⟩ := k2_I h; exact ⟨rfl, rfl, w, hk _ _ _ u⟩
  | 56, h => obtain ⟨x, y, r, rfl, w, u⟩ := k2_I h; exact ⟨rfl, rfl, w, hk _ _ _ u⟩
  | 57, h => obtain ⟨i, r, rfl, h3⟩ := k1_I h; obtain ⟨c, r, rfl, w, e, b, u⟩ := k1_R h3; exact ⟨rfl, rfl, w, e, b, hk _ _ _ u⟩
  | 58, h => obtain ⟨x, r, rfl, h3⟩ := k1_I h; obtain ⟨i, r, rfl, h4⟩ := k1_I h3; obtain ⟨c, r, rfl, w, e, b, u⟩ := k1_R h4; exact ⟨rfl, rfl, rfl, w, e, b, hk _ _ _ u⟩
  | 59, h => obtain ⟨d, r, rfl, h3⟩ := k1_R h; obtain ⟨i, r, rfl, h4⟩ := k1_I h3; obtain ⟨c, r, rfl, w, e, b, f, g, n, u⟩ := k1_R h4; exact ⟨rfl, rfl, rfl, w, e, b, f, g, n, hk _ _ _ u⟩
  | 66, h => obtain ⟨x, r, rfl, w, u⟩ := k1_I h; exact ⟨rfl, w, hk _ _ _ u⟩
  | 100, h => obtain ⟨x, r, rfl, t, e, u, v⟩ := k1_I h; exact ⟨rfl, t, e, u, fun q => hk _ _ _ (v q)⟩
  | 101, h => obtain ⟨x, r, rfl, t, e, u, v⟩ := k1_I h; exact ⟨rfl, t, e, u, fun q => hk _ _ _ (v q)⟩
  | 102, h => obtain ⟨x, r, rfl, t, e, u, v⟩ := k1_I h; exact ⟨rfl, t, e, u, fun q => hk _ _ _ (v q)⟩
  | 103, h => obtain ⟨x, r, rfl, t, e, u, v⟩ := k1_I h; exact ⟨rfl, t, e, u, fun q => hk _ _ _ (v q)⟩
  | 104, h => obtain ⟨x, r, rfl, t, e, u, v⟩ := k1_I h; exact ⟨rfl, t, e, u, fun q => hk _ _ _ (v q)⟩
  | 105, h => obtain ⟨x, r, rfl, t, e, u, v⟩ := k1_I h; exact ⟨rfl, t, e, u, fun q => hk _ _ _ (v q)⟩
  | 106, h => obtain ⟨x, r, rfl, t, e, u, v⟩ := k1_I h; exact ⟨rfl, t, e, u, fun q => hk _ _ _ (v q)⟩
  | 107, h => obtain ⟨x, r, rfl, t, e, u, v⟩ := k1_I h; exact ⟨rfl, t, e, u, fun q => hk _ _ _ (v q)⟩
  | 108, h => obtain ⟨x, r, rfl, t, e, u, v⟩ := k1_I h; exact ⟨rfl, t, e, u, fun q => hk _ _ _ (v q)⟩
  | 109, h => obtain ⟨x, r, rfl, t, e, u, v⟩ := k1_I h; exact ⟨rfl, t, e, u, fun q => hk _ _ _ (v q)⟩
  | 110, h => obtain ⟨x, r, rfl, t, e, u, v⟩ := k1_I h; exact ⟨rfl, t, e, u, fun q => hk _ _ _ (v q)⟩
  | 111, h => obtain ⟨x, r, rfl, t, e, u, v⟩ := k1_I h; exact ⟨rfl, t, e, u, fun q => hk _ _ _ (v q)⟩
  | 112, h => obtain ⟨x, r, rfl, t, e, u, v⟩ := k1_I h; exact ⟨rfl, t, e, u, fun q => hk _ _ _ (v q)⟩
  | 113, h => obtain ⟨x, r, rfl, t, e, u, v⟩ := k1_I h; exact ⟨rfl, t, e, u, fun q => hk _ _ _ (v q)⟩
  | 60, h => obtain ⟨a, b, c, d, e⟩ := h; exact ⟨a, b, c, d, hCm _ _ _ _ _ (fun r H q => hk _ _ _ q) e⟩
  | 61, h => obtain ⟨a, b, c, d, e⟩ := h; obtain ⟨x, r, hr, w, z, u⟩ := k1_R e; refine ⟨a, b, c, d, ?_⟩; rw [hr]; exact ⟨rfl, w, z, hCm _ _ _ _ _ (fun r H q => hk _ _ _ q) u⟩
  | 62, h => exact h
  | 63, h => exact h
  | 64, h => exact h
  | 65, h => exact h
  | 67, h => exact h
  | 68, h => exact h
  | 69, h => exact h
  | 70, h => exact h
  | 71, h => exact h
  | 72, h => exact h
  | 73, h => exact h
  | 74, h => exact h
  | 75, h => exact h
  | 76, h => exact h
  | 77, h => exact h
  | 78, h => exact h
  | 79, h => exact h
  | 80, h => exact h
  | 81, h => exact h
  | 82, h => exact h
  | 83, h => exact h
  | 84, h => exact h
  | 85, h => exact h
  | 86, h => exact h
  | 87, h => exact h
  | 88, h => exact h
  | 89, h => exact h
  | 90, h => exact h
  | 91, h => exact h
  | 92, h => exact h
  | 93, h => exact h
  | 94, h => exact h
  | 95, h => exact h
  | 96, h => exact h
  | 97, h => exact h
  | 98, h => exact h
  | 99, h => exact h
  | n + 114, h => exact h
def wFB (J : Nat → PL → List pv → PH → Prop) (Q : Option pv → PH → Prop) (F : Nat → List pv → PH → (Option pv → PH → Prop) → Prop) (nx : Option Nat) : List VE → Nat → PL → List pv → PH → Prop
  | [], pc, ls, st, H => nx = some pc ∧ J pc ls st H
  | e :: t, pc, ls, st, H => e.1 = pc ∧ wF J Q F e.1 e.2.1 e.2.2.1 e.2.2.2.1 e.2.2.2.2 ls st H (wFB J Q F nx t e.2.2.1)
theorem wB_and {nx : Option Nat} (hC : ∀ mj as H K1 K2, C1 mj as H K1 → F mj as H K2 → C mj as H (fun r H => K1 r H ∧ K2 r H)) (hCm : ∀ mj as H (K K' : Option pv → PH → Prop), (∀ r H, K r H → K' r H) → C mj as H K → C mj as H K') : ∀ (b : List VE) (pc : Nat) (ls : PL) (st : List pv) (H : PH), wB J1 Q1 C1 nx b pc ls st H → wFB J2 Q2 F nx b pc ls st H → wB (fun t ls st H => J1 t ls st H ∧ J2 t ls st H) (fun r H => Q1 r H ∧ Q2 r H) C nx b pc ls st H
  | [], pc, ls, st, H, h1, h2 => ⟨h1.1, h1.2, h2.2⟩
  | e :: t, pc, ls, st, H, h1, h2 => ⟨h1.1, wI_mono (fun ls st H q => wB_and hC hCm t _ ls st H q.1 q.2) hCm (wI_and hC h1.2 h2.2)⟩
end WF
abbrev pP : Type := List pv → PH → Prop
abbrev pR : Type := List pv → PH → Option pv → PH → Prop
/-- what a contract says of the end -/
def cpo (lv : Nat) (c : aC) (g : Nat → Nat → Int) (as : List pv) (H : PH) (r : Option pv) (H' : PH) : Prop := WT lv g H' ∧ rok c.2.2.2.1 r ∧ (∀ x, r = some (0, x) → ∀ f ∈ c.2.2.2.2.1, f.1 ≤ x → x ≤ f.2.1 → ∀ y, as[f.2.2.1]? = some (0, y) → f.2.2.2.1 ≤ y ∧ y ≤ f.2.2.2.2) ∧ frm c.2.2.2.2.2.2.1 H H' ∧ (∀ x, r = some (0, x) → ∀ f ∈ c.2.2.2.2.2.2.2.2.1, f.1 ≤ x → x ≤ f.2.1 → fok [] H' f.2.2) ∧ ∀ f ∈ c.2.2.2.2.2.2.2.2.2, fok [] H' f
/-- a contract, with what the answer is -/
def FnOK (c : aC) (P : pP) (R : pR) : Prop := ∀ (G : zG) (us : Nat) (g : Nat → Nat → Int) (H : PH) (as : List pv), GOK g → WT c.2.2.2.2.2.1 g H → aargs c.2.2.1 as → (∀ f ∈ c.2.2.2.2.2.2.2.1, fok [] H f) → P as H → Ca G us c.2.1 c.1 as H (fun r H' => cpo c.2.2.2.2.2.1 c g as H r H' ∧ R as H r H')
theorem Fn_ct {c : aC} (h : CtOK c) : FnOK c (fun _ _ => True) (fun _ _ _ _ => True) := fun G us g H as hg hW ha hp _ => Ca_mono (Nat.le_refl _) (fun r H' q => ⟨q, trivial⟩) (h G us g H as hg hW ha hp)
theorem Ct_fn {c : aC} {P : pP} {R : pR} (h : FnOK c P R) (hP : ∀ as H, P as H) : CtOK c := fun G us g H as hg hW ha hp => Ca_mono (Nat.le_refl _) (fun r H' q => q.1) (h G us g H as hg hW ha hp (hP as H))
theorem Fn_w {c : aC} {P P' : pP} {R R' : pR} (h : FnOK c P R) (hP : ∀ as H, P' as H → P as H) (hR : ∀ as H r H', P' as H → R as H r H' → R' as H r H') : FnOK c P' R' := fun G us g H as hg hW ha hp q => Ca_mono (Nat.le_refl _) (fun r H' z => ⟨z.1, hR as H r H' q z.2⟩) (h G us g H as hg hW ha hp (hP as H q))
theorem Fn_lv {c : aC} {P : pP} {R : pR} (hc : FnOK c P R) {lv : Nat} (h1 : c.2.2.2.2.2.1 ≤ lv) (h2 : lv ≤ 1) {G : zG} {us : Nat} {g : Nat → Nat → Int} {H : PH} {as : List pv} (hg : GOK g) (hW : WT lv g H) (ha : aargs c.2.2.1 as) (hp : ∀ f ∈ c.2.2.2.2.2.2.2.1, fok [] H f) (hP : P as H) : Ca G us c.2.1 c.1 as H (fun r H' => cpo lv c g as H r H' ∧ R as H r H') := by
  have hg' : GOK (fun c i => gv H c i) := lwf_congr (f := g 591) (fun k a b => (hW 591 k (by decide) (by rw [sh_591']; omega)).2 (fz_law h2 a b)) hg
  have hW' : WT c.2.2.2.2.2.1 (fun c i => gv H c i) H := fun c i a b => ⟨(hW c i a b).1, fun _ => rfl⟩
  refine Ca_mono (Nat.le_refl _) ?_ (hc G us _ H as hg' hW' ha hp hP)
  rintro r H' ⟨⟨q1, q2⟩, q3⟩
  refine ⟨⟨fun c i a b => ⟨(q1 c i a b).1, fun q => ?_⟩, q2⟩, q3⟩
  rw [(q1 c i a b).2 (fz_mono h1 q)]
  exact (hW c i a b).2 q
/-- a call as the checker knows it -/
def CX (cs : Nat → List aC) (lv D : Nat) (g : Nat → Nat → Int) (mj : Nat) (as : List pv) (H : PH) (K : Option pv → PH → Prop) : Prop := ∃ (c : aC) (p : Nat), c ∈ cs p ∧ c.1 = mj ∧ c.2.1 ≤ D ∧ c.2.2.2.2.2.1 ≤ lv ∧ WT lv g H ∧ aargs c.2.2.1 as ∧ (∀ f ∈ c.2.2.2.2.2.2.2.1, fok [] H f) ∧ ∀ r H', cpo lv c g as H r H' → K r H'
section CKX
variable {cs : Nat → List aC} {Jt : Nat → aS → Bool} {rt : Option aV} {lv D : Nat} {md : List Nat} {po : List aF} {g : Nat → Nat → Int} {H0 H : PH} {ls0 ls : PL} {st : List pv} {S : aS} {G : zG} {us : Nat} {J : Nat → PL → List pv → PH → Prop} {Q : Option pv → PH → Prop} {k : aS → Bool} {k' : PL → List pv → PH → Prop}
theorem call_okX {p m n : Nat} (h : ccall cs lv D md p m n S k = true) (hlv : lv ≤ 1) (hg : GOK g) (hs : sok lv md g H0 ls0 S ls st H) (hk : ∀ S ls st H, k S = true → sok lv md g H0 ls0 S ls st H → k' ls st H) : n ≤ st.length ∧ pcat (st.drop n) ≤ 8 ∧ CX cs lv D g m (st.take n).reverse H (fun r H2 => k' ls (ppush r (st.drop n)) H2) := by
  unfold ccall at h
  rw [List.any_eq_true] at h
  obtain ⟨c, hc, h⟩ := h
  · unfold ccall1 at h
    simp only [Bool.and_eq_true] at h
    obtain ⟨⟨⟨⟨⟨⟨⟨⟨⟨⟨e1, e2⟩, e3⟩, e4⟩, e5⟩, e6⟩, e7⟩, e8⟩, x8⟩, y8⟩, e9⟩ := h
    have e1 : c.1 = m := Nat.eq_of_beq_eq_true e1
    have e2 := Nat.le_of_ble_eq_true e2
    have e3 := Nat.le_of_ble_eq_true e3
    have e4 := Nat.le_of_ble_eq_true e4
    have e5 := Nat.le_of_ble_eq_true e5
    have hst := hs.1.2.1
    have hd := all2_drop n hst
    have ht := all2_reverse (all2_take n hst)
    refine ⟨by rw [← all2_len hst]; exact e3, by rw [← nlong_ok hd]; exact e4, ?_⟩
    have hpre : ∀ f ∈ c.2.2.2.2.2.2.2.1, fok [] H f := by
      intro f hf
      have h1 := List.all_eq_true.mp e8 f hf
      rw [Bool.and_eq_true] at h1
      exact fok_nil (Nat.eq_of_beq_eq_true h1.1) (fcov2_ok h1.2 hs.1.2.2)
    refine ⟨c, p, hc, e1, by omega, e5, hs.2.1, amatch_ok e7 ht, hpre, ?_⟩
    rintro r H' ⟨w1, w2, w3, w4, w5, w6⟩
    have f2 : ∀ {fs : List aF}, isF2 fs = true → (∀ f ∈ fs, fok [] H' f) → ∀ f ∈ fs, fok ls H' f := by
      intro fs h1 h2 f hf x hx
      have h3 := Nat.eq_of_beq_eq_true (List.all_eq_true.mp h1 f hf)
      refine h2 f hf x ?_
      obtain ⟨⟨q1, q2, q3⟩, q4⟩ := f
      have h3 : q1 = 2 := h3
      subst h3
      exact hx
    have hK := kill_H (fun o x q => PM_oval w4 q) (S := (S.1, S.2.1.drop n, S.2.2)) (ls0 := ls0) (ls := ls) (st := st.drop n) ⟨hs.1.1, hd, hs.1.2.2⟩
    have hT : sok lv md g H0 ls0 ((kill (PM c.2.2.2.2.2.2.1) (S.1, S.2.1.drop n, S.2.2)).1, (kill (PM c.2.2.2.2.2.2.1) (S.1, S.2.1.drop n, S.2.2)).2.1, c.2.2.2.2.2.2.2.2.2 ++ (kill (PM c.2.2.2.2.2.2.1) (S.1, S.2.1.drop n, S.2.2)).2.2) ls (st.drop n) H' := by
      refine ⟨⟨hK.1, hK.2.1, ?_⟩, w1, frm_trans hs.2.2 (frm_sub e6 w4)⟩
      intro f hf
      rcases List.mem_append.mp hf with hf | hf
      · exact f2 y8 w6 f hf
      · exact hK.2.2 f hf
    have e9 : (match c.2.2.2.1 with
      | none => k ((kill (PM c.2.2.2.2.2.2.1) (S.1, S.2.1.drop n, S.2.2)).1, (kill (PM c.2.2.2.2.2.2.1) (S.1, S.2.1.drop n, S.2.2)).2.1, c.2.2.2.2.2.2.2.2.2 ++ (kill (PM c.2.2.2.2.2.2.1) (S.1, S.2.1.drop n, S.2.2)).2.2)
      | some a => k (push (a, (0, 0, 0), (0, 0), cfacts c.2.2.2.2.2.2.1 (S.2.1.take n).reverse c.2.2.2.2.1 ++ (kfacts c.2.2.2.2.2.2.1 (S.2.1.take n).reverse c.2.2.2.2.1 ++ c.2.2.2.2.2.2.2.2.1)) ((kill (PM c.2.2.2.2.2.2.1) (S.1, S.2.1.drop n, S.2.2)).1, (kill (PM c.2.2.2.2.2.2.1) (S.1, S.2.1.drop n, S.2.2)).2.1, c.2.2.2.2.2.2.2.2.2 ++ (kill (PM c.2.2.2.2.2.2.1) (S.1, S.2.1.drop n, S.2.2)).2.2))) = true := e9
    unfold rok at w2
    split at w2
    · rename_i ha
      rw [ha] at e9
      exact hk _ _ _ _ e9 hT
    · rename_i a v ha
      rw [ha] at e9
      refine hk _ _ _ _ e9 (push_ok ⟨w2, fun q => (q rfl).elim, fun v q => (by cases q), ?_⟩ hT)
      intro hv0 f hf z1 z2
      rcases List.mem_append.mp hf with hf | hf
      · intro x hx
        obtain ⟨f0, hf0, rfl⟩ := List.mem_map.mp hf
        obtain ⟨hf1, hf2⟩ := List.mem_filter.mp hf0
        rw [Bool.and_eq_true] at hf2
        have ho : (nthE (S.2.1.take n).reverse f0.2.2.1).2.1.1 ≠ 0 := nbeq_f hf2.1
        obtain ⟨q, hq1, hq2⟩ := nthE_ok f0.2.2.1 ht (Or.inl ho)
        have hq3 := hq2.2.1 ho
        have hx' : oval ls H (nthE (S.2.1.take n).reverse f0.2.2.1).2.1 x := (PM_oval w4 (by have := hf2.2; rw [Bool.not_eq_true'] at this; exact this)).mp hx
        have e := oval_fun hx' hq3.2
        subst e
        refine w3 v.2 (by rw [← hv0]) f0 hf1 z1 z2 q.2 ?_
        rw [hq1, ← hq3.1]
      · rcases List.mem_append.mp hf with hf | hf
        · exact kf_ok ht w4 (fun f hf z1 z2 => w3 v.2 (by rw [← hv0]) f hf z1 z2) f hf z1 z2
        · intro x hx
          have h3 := Nat.eq_of_beq_eq_true (List.all_eq_true.mp x8 f hf)
          refine w5 v.2 (by rw [← hv0]) f hf z1 z2 x ?_
          obtain ⟨k1, k2, ⟨q1, q2, q3⟩, q4⟩ := f
          have h3 : q1 = 2 := h3
          subst h3
          exact hx
    · exact w2.elim
theorem cI_okX {p npc a1 a2 : Nat} (hcs : ∀ p, ∀ c ∈ cs p, CtOK c) (hlv : lv ≤ 1) (hg : GOK g) (hj : ∀ t S ls st H, Jt t S = true → sok lv md g H0 ls0 S ls st H → J t ls st H) (hk : ∀ S ls st H, k S = true → sok lv md g H0 ls0 S ls st H → k' ls st H) (hQ : ∀ r H, rok rt r → WT lv g H → frm md H0 H → (∀ f ∈ po, fok [] H f) → Q r H) (op : Nat) (h : cI cs Jt rt lv D md po p op npc a1 a2 S k = true) (hs : sok lv md g H0 ls0 S ls st H) : wI J Q (CX cs lv D g) p op npc a1 a2 ls st H k' := by
  by_cases h60 : op = 60
  · subst h60
    rw [show cI cs Jt rt lv D md po p 60 npc a1 a2 S k = (Nat.blt a1 511 && Nat.beq (a2 / 16) 0 && ccall cs lv D md p a1 a2 S k) from rfl, Bool.and_eq_true, Bool.and_eq_true] at h
    have h1 : a1 < 511 := Nat.blt_eq.mp h.1.1
    exact ⟨by omega, Nat.eq_of_beq_eq_true h.1.2, call_okX h.2 hlv hg hs hk⟩
  by_cases h61 : op = 61
  · subst h61
    simp only [cI, Bool.and_eq_true] at h
    obtain ⟨⟨⟨e1, e2⟩, e3⟩, e4⟩ := h
    have h1 : a1 < 511 := Nat.blt_eq.mp e1
    obtain ⟨q1, q2, q3⟩ := call_okX e4 hlv hg hs hk
    refine ⟨by omega, q1, Nat.le_of_ble_eq_true e2, q2, ?_⟩
    have hrev := all2_reverse (all2_take (a2 % 16) hs.1.2.1)
    split at e3
    · rename_i e r her
      rw [her] at hrev
      rw [Bool.and_eq_true] at e3
      cases hl : (st.take (a2 % 16)).reverse with
      | nil => rw [hl] at hrev; exact hrev.elim
      | cons v t =>
        rw [hl] at hrev q3
        obtain ⟨tx, ev⟩ := tag_v e3.1 hrev.1
        have h2 := hrev.1
        rw [ev] at h2 q3 ⊢
        obtain ⟨n, ec, hn, ht, hk1, hk2, hk3⟩ := ref_cell tx h2
        have en : ((n : Int)).toNat = n := by omega
        refine ⟨rfl, ⟨by rw [ec]; omega, by rw [ec, zNC_eq]; omega⟩, ?_, q3⟩
        show (zSh v.2.toNat).1 + 1 = a2 / 16
        rw [ec, en, hk1]
        exact Nat.eq_of_beq_eq_true e3.2
    · cases e3
  exact wI_C (C := Ca (none, none, []) 0 D) h60 h61 (cI_ok hcs hlv hg hj hk hQ op h hs)
theorem cB_okX {nx : Option Nat} (hcs : ∀ p, ∀ c ∈ cs p, CtOK c) (hlv : lv ≤ 1) (hg : GOK g) (hj : ∀ t S ls st H, Jt t S = true → sok lv md g H0 ls0 S ls st H → J t ls st H) (hQ : ∀ r H, rok rt r → WT lv g H → frm md H0 H → (∀ f ∈ po, fok [] H f) → Q r H) : ∀ (b : List VE) (pc : Nat) (S : aS) (ls : PL) (st : List pv) (H : PH), cB cs Jt rt lv D md po nx b pc S = true → sok lv md g H0 ls0 S ls st H → wB J Q (CX cs lv D g) nx b pc ls st H
  | [], pc, S, ls, st, H, h, hs => by
    unfold cB at h
    split at h
    · rename_i t
      rw [Bool.and_eq_true] at h
      have e : t = pc := Nat.eq_of_beq_eq_true h.1
      subst e
      exact ⟨rfl, hj _ _ _ _ _ h.2 hs⟩
    · cases h
  | e :: t, pc, S, ls, st, H, h, hs => by
    have h : (Nat.beq e.1 pc && cI cs Jt rt lv D md po e.1 e.2.1 e.2.2.1 e.2.2.2.1 e.2.2.2.2 S (cB cs Jt rt lv D md po nx t e.2.2.1)) = true := h
    rw [Bool.and_eq_true] at h
    exact ⟨Nat.eq_of_beq_eq_true h.1, cI_okX hcs hlv hg hj (fun S ls st H q => cB_okX hcs hlv hg hj hQ t e.2.2.1 S ls st H q) hQ e.2.1 h.2 hs⟩
end CKX
