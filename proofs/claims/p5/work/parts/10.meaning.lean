/-! ===== what the values mean: of an int alone, and of any value at the addresses as ===== -/
def zgI (ρ : Nat → Int32) (a : zV) (x : Int32) : Prop := match a with
  | .inl u => x = zI u
  | .inr (.inl (lo, hi, j)) => lo ≤ x.toInt ∧ x.toInt ≤ hi ∧ (j ≠ 0 → x = ρ j)
  | _ => False
def zg (ρ : Nat → Int32) (b : Nat) (as : List Nat) (a : zV) (v : Value) : Prop := match a with
  | .inl u => v = .int (zI u)
  | .inr (.inl (lo, hi, j)) => ∃ x : Int32, v = .int x ∧ lo ≤ x.toInt ∧ x.toInt ≤ hi ∧ (j ≠ 0 → x = ρ j)
  | .inr (.inr (.inl w)) => v = .long (zI6 w)
  | .inr (.inr (.inr 0)) => v = .null
  | .inr (.inr (.inr 1)) => v = .ref b
  | .inr (.inr (.inr (i + 2))) => ∃ q, as[i]? = some q ∧ v = .ref q
section ZG
variable {ρ : Nat → Int32} {b : Nat} {as : List Nat}
theorem zg_mono {a : zV} {v : Value} (xs : List Nat) (h : zg ρ b as a v) : zg ρ b (as ++ xs) a v := by
  match a, h with
  | .inl _, h => exact h
  | .inr (.inl (_, _, _)), h => exact h
  | .inr (.inr (.inl _)), h => exact h
  | .inr (.inr (.inr 0)), h => exact h
  | .inr (.inr (.inr 1)), h => exact h
  | .inr (.inr (.inr (i + 2))), ⟨q, h1, h2⟩ =>
    exact ⟨q, by rw [List.getElem?_append_left (List.getElem?_eq_some_iff.mp h1).1]; exact h1, h2⟩
theorem zg_I {a : zV} {v : Value} (h : zg ρ b as a v) (ha : zisI a = true) : ∃ x, v = .int x ∧ zgI ρ a x := by
  match a, h, ha with
  | .inl _, h, _ => exact ⟨_, h, rfl⟩
  | .inr (.inl (_, _, _)), ⟨x, h1, h2⟩, _ => exact ⟨x, h1, h2⟩
theorem zg_ofI {a : zV} {x : Int32} (h : zgI ρ a x) : zg ρ b as a (.int x) := by
  match a, h with
  | .inl _, h => exact congrArg _ h
  | .inr (.inl (_, _, _)), h => exact ⟨x, rfl, h⟩
theorem zgI_is {a : zV} {x : Int32} (h : zgI ρ a x) : zisI a = true := by
  match a, h with
  | .inl _, _ => rfl
  | .inr (.inl (_, _, _)), _ => rfl
theorem zg_toI {a : zV} {x : Int32} (h : zg ρ b as a (.int x)) : zgI ρ a x := by
  match a, h with
  | .inl _, h => exact Value.int.inj h
  | .inr (.inl (_, _, _)), ⟨y, h1, h2⟩ => cases h1; exact h2
  | .inr (.inr (.inr (_ + 2))), ⟨_, _, h⟩ => cases h
theorem zg_L {a : zV} {v : Value} (h : zg ρ b as a v) (ha : zisL a = true) : ∃ w, a = zl w ∧ v = .long (zI6 w) := by
  match a, h, ha with
  | .inr (.inr (.inl w)), h, _ => exact ⟨w, rfl, h⟩
theorem zg_R {a : zV} {v : Value} (h : zg ρ b as a v) (ha : zisR a = true) : ∃ q, v = .ref q := by
  match a, h, ha with
  | .inr (.inr (.inr 1)), h, _ => exact ⟨b, h⟩
  | .inr (.inr (.inr (_ + 2))), ⟨q, _, h⟩, _ => exact ⟨q, h⟩
theorem zg_cat {a : zV} {v : Value} (h : zg ρ b as a v) : v.category = if zisL a = true then 2 else 1 := by
  match a, h with
  | .inl _, h => cases h; rfl
  | .inr (.inl (_, _, _)), ⟨_, h, _⟩ => cases h; rfl
  | .inr (.inr (.inl _)), h => cases h; rfl
  | .inr (.inr (.inr 0)), h => cases h; rfl
  | .inr (.inr (.inr 1)), h => cases h; rfl
  | .inr (.inr (.inr (_ + 2))), ⟨_, _, h⟩ => cases h; rfl
theorem zis1_L {a : zV} (h : zis1 a = true) : zisL a = false := by
  match a, h with
  | .inl _, _ => rfl
  | .inr (.inl (_, _, _)), _ => rfl
  | .inr (.inr (.inr _)), _ => rfl
theorem zg_cat1 {a : zV} {v : Value} (h : zg ρ b as a v) (ha : zis1 a = true) : v.category = 1 := by
  rw [zg_cat h, zis1_L ha]; rfl
theorem zisI_1 {a : zV} (h : zisI a = true) : zisL a = false := by
  match a, h with
  | .inl _, _ => rfl
  | .inr (.inl (_, _, _)), _ => rfl
theorem zisR_1 {a : zV} (h : zisR a = true) : zisL a = false := by
  match a, h with
  | .inr (.inr (.inr _)), _ => rfl
/-- the stack -/
def zS (ρ : Nat → Int32) (b : Nat) (as : List Nat) : List zV → List Value → Prop
  | [], [] => True
  | a :: t, v :: u => zg ρ b as a v ∧ zS ρ b as t u
  | _, _ => False
theorem zS_mono (xs : List Nat) : ∀ {t : List zV} {u : List Value}, zS ρ b as t u → zS ρ b (as ++ xs) t u
  | [], [], _ => trivial
  | _ :: _, _ :: _, h => ⟨zg_mono xs h.1, zS_mono xs h.2⟩
theorem zS_cons {a : zV} {t : List zV} {u : List Value} (h : zS ρ b as (a :: t) u) : ∃ v w, u = v :: w ∧ zg ρ b as a v ∧ zS ρ b as t w := by
  match u, h with
  | v :: w, h => exact ⟨v, w, rfl, h.1, h.2⟩
theorem zS_nil {u : List Value} (h : zS ρ b as [] u) : u = [] := by
  match u, h with
  | [], _ => rfl
theorem zS_app : ∀ {t1 t2 : List zV} {u1 u2 : List Value}, zS ρ b as t1 u1 → zS ρ b as t2 u2 → zS ρ b as (t1 ++ t2) (u1 ++ u2)
  | [], _, [], _, _, h => h
  | _ :: _, _, _ :: _, _, h1, h2 => ⟨h1.1, zS_app h1.2 h2⟩
theorem zS_cat : ∀ {t : List zV} {u : List Value}, zS ρ b as t u → (u.map fun v => v.category).sum = zcat t
  | [], [], _ => rfl
  | a :: t, v :: u, h => by
    have h1 := zg_cat h.1
    have h2 := zS_cat h.2
    unfold zcat at h2 ⊢
    simp only [List.map_cons, List.sum_cons, h1, h2]
theorem zS_len : ∀ {t : List zV} {u : List Value}, zS ρ b as t u → u.length = t.length
  | [], [], _ => rfl
  | _ :: _, _ :: _, h => by simp [zS_len h.2]
/-- the locals -/
def zLr (ρ : Nat → Int32) (b : Nat) (as : List Nat) : zLs → List (Nat × Value) → Prop
  | [], [] => True
  | q :: t, r :: u => q.1 = r.1 ∧ zg ρ b as q.2 r.2 ∧ zLr ρ b as t u
  | _, _ => False
theorem zLr_mono (xs : List Nat) : ∀ {t : zLs} {u : List (Nat × Value)}, zLr ρ b as t u → zLr ρ b (as ++ xs) t u
  | [], [], _ => trivial
  | _ :: _, _ :: _, h => ⟨h.1, zg_mono xs h.2.1, zLr_mono xs h.2.2⟩
theorem zLr_find : ∀ {t : zLs} {u : List (Nat × Value)} {i : Nat} {a : zV}, zLr ρ b as t u → zfind t i = some a → ∃ (k : Nat) (v : Value), u[k]? = some (i, v) ∧ zg ρ b as a v
  | q :: t, r :: u, i, a, h, hf => by
    have hf' : Bool.rec (motive := fun _ => Option zV) (zfind t i) (some q.2) (Nat.beq q.1 i) = some a := hf
    cases hb : Nat.beq q.1 i
    · rw [hb] at hf'
      obtain ⟨k, v, h1, h2⟩ := zLr_find h.2.2 hf'
      exact ⟨k + 1, v, h1, h2⟩
    · rw [hb] at hf'
      have e : q.1 = i := Nat.eq_of_beq_eq_true hb
      cases hf'
      exact ⟨0, r.2, by rw [← e, h.1]; rfl, h.2.1⟩
theorem zbeq (a b : Nat) : Nat.beq a b = (a == b) := by rw [Bool.eq_iff_iff, Nat.beq_eq, beq_iff_eq]
theorem zLr_filter (i : Nat) (w : Bool) : ∀ {t : zLs} {u : List (Nat × Value)}, zLr ρ b as t u → zLr ρ b as (t.filter (fun q => !zdrop i w q)) (u.filter (fun r => !(r.1 == i || (r.1 + 1 == i && r.2.category == 2) || (w && r.1 == i + 1))))
  | [], [], _ => trivial
  | q :: t, r :: u, h => by
    have e : zdrop i w q = (r.1 == i || (r.1 + 1 == i && r.2.category == 2) || (w && r.1 == i + 1)) := by
      have hc := zg_cat h.2.1
      have e2 : zisL q.2 = (r.2.category == 2) := by
        rw [hc]
        cases zisL q.2 <;> rfl
      unfold zdrop
      rw [h.1, e2]
      simp only [zbeq]
    rw [List.filter_cons, List.filter_cons, e]
    by_cases hx : (r.1 == i || (r.1 + 1 == i && r.2.category == 2) || (w && r.1 == i + 1)) = true
    · simp only [hx]
      exact zLr_filter i w h.2.2
    · simp only [Bool.not_eq_true] at hx
      simp only [hx]
      exact ⟨h.1, h.2.1, zLr_filter i w h.2.2⟩
/-! ===== numbers ===== -/
theorem zgI_top (x : Int32) : zgI ρ ztop x := by
  refine ⟨?_, ?_, fun h => absurd rfl h⟩
  · have := Int32.le_toInt x
    unfold zlo
    omega
  · have := Int32.toInt_lt x
    unfold zhi
    omega
theorem zki_eq (x : Int32) (k : zV → zO) : zki x k = k (zi (zU x)) := fN_eq _ _
theorem zkl_eq (x : Int64) (k : zV → zO) : zkl x k = k (zl (zU6 x)) := fN_eq _ _
theorem zb2_ok {f : Int32 → Int32 → Int32} {a c : zV} {k : zV → zO} {o} (h : zb2 f a c k = some o) : zisI a = true ∧ zisI c = true ∧ ∃ r, k r = some o ∧ ∀ x y, zgI ρ a x → zgI ρ c y → zgI ρ r (f x y) := by
  match a, c, h with
  | .inl x, .inl y, h =>
    refine ⟨rfl, rfl, zi (zU (f (zI x) (zI y))), (zki_eq _ k).symm.trans h, fun x' y' h1 h2 => ?_⟩
    cases h1
    cases h2
    exact (zI_zU _).symm
  | .inl _, .inr (.inl _), h => exact ⟨rfl, rfl, _, h, fun _ _ _ _ => zgI_top _⟩
  | .inr (.inl _), .inl _, h => exact ⟨rfl, rfl, _, h, fun _ _ _ _ => zgI_top _⟩
  | .inr (.inl _), .inr (.inl _), h => exact ⟨rfl, rfl, _, h, fun _ _ _ _ => zgI_top _⟩
  | .inl _, .inr (.inr _), h => cases h
  | .inr (.inr _), .inl _, h => cases h
  | .inr (.inl _), .inr (.inr _), h => cases h
  | .inr (.inr _), .inr (.inl _), h => cases h
  | .inr (.inr _), .inr (.inr _), h => cases h
theorem zI_0 : zI 0 = 0 := by decide
theorem zI_mod (n : Nat) : zI (n % 4294967296) = zI n := by
  unfold zI
  congr 1
  apply BitVec.eq_of_toNat_eq
  simp
theorem zI_add (x y : Nat) : zI (x + y) = zI x + zI y := by
  unfold zI
  rw [BitVec.ofNat_add, Int32.ofBitVec_add]
theorem zI_mul (x y : Nat) : zI (x * y) = zI x * zI y := by
  unfold zI
  rw [BitVec.ofNat_mul, Int32.ofBitVec_mul]
theorem zI_sub (x y : Nat) : zI (x + (4294967296 - y % 4294967296)) = zI x - zI y := by
  have h : zI (4294967296 - y % 4294967296) + zI y = 0 := by
    rw [← zI_mod y, ← zI_add, show 4294967296 - y % 4294967296 + y % 4294967296 = 4294967296 by omega]
    decide
  rw [zI_add]
  have h2 : zI (4294967296 - y % 4294967296) = - zI y := by
    have := congrArg (· - zI y) h
    simpa [Int32.add_sub_cancel] using this
  rw [h2, Int32.sub_eq_add_neg]
theorem zk32_eq (n : Nat) (k : zV → zO) : zk32 n k = k (zi (n % 4294967296)) := fN_eq _ _
theorem zinc_ok {c : Nat} {a : zV} {k : zV → zO} {o} (h : zinc c a k = some o) : zisI a = true ∧ ∃ r, k r = some o ∧ ∀ x, zgI ρ a x → zgI ρ r (x + zI c) := by
  match a, h with
  | .inl x, h =>
    refine ⟨rfl, zi ((x + c) % 4294967296), (zk32_eq _ k).symm.trans h, fun x' h1 => ?_⟩
    cases h1
    show _ = zI _
    rw [zI_mod, zI_add]
  | .inr (.inl _), h => exact ⟨rfl, _, h, fun _ _ => zgI_top _⟩
  | .inr (.inr _), h => cases h
theorem zadd_ok {a c : zV} {k : zV → zO} {o} (h : zadd a c k = some o) : zisI a = true ∧ zisI c = true ∧ ∃ r, k r = some o ∧ ∀ x y, zgI ρ a x → zgI ρ c y → zgI ρ r (x + y) := by
  unfold zadd at h
  split at h
  · rename_i x0 y0
    refine ⟨rfl, rfl, zi ((x0 + y0) % 4294967296), (zk32_eq _ k).symm.trans h, fun x y h1 h2 => ?_⟩
    cases h1
    cases h2
    show _ = zI _
    rw [zI_mod, zI_add]
  · refine ⟨rfl, rfl, _, h, fun x y h1 h2 => ?_⟩
    have e : x = 0 := h1.trans zI_0
    rw [e, Int32.zero_add]
    exact h2
  · exact zb2_ok h
theorem zsub_ok {a c : zV} {k : zV → zO} {o} (h : zsub a c k = some o) : zisI a = true ∧ zisI c = true ∧ ∃ r, k r = some o ∧ ∀ x y, zgI ρ a x → zgI ρ c y → zgI ρ r (x - y) := by
  unfold zsub at h
  split at h
  · rename_i x0 y0
    refine ⟨rfl, rfl, zi ((x0 + (4294967296 - y0 % 4294967296)) % 4294967296), (zk32_eq _ k).symm.trans h, fun x y h1 h2 => ?_⟩
    cases h1
    cases h2
    show _ = zI _
    rw [zI_mod, zI_sub]
  · rename_i lo hi j
    by_cases hb : 0 ≤ lo ∧ hi ≤ zhi
    · rw [if_pos hb] at h
      refine ⟨rfl, rfl, _, h, fun x y h1 h2 => ?_⟩
      have e : x = 0 := h1.trans zI_0
      obtain ⟨h3, h4, -⟩ := h2
      have hz : zhi = 2147483647 := rfl
      have e2 : (x - y).toInt = - y.toInt := by
        rw [e, Int32.toInt_sub, Int32.toInt_zero]
        have : (0 - y.toInt).bmod (2 ^ 32) = - y.toInt := by
          rw [Int.zero_sub]
          apply Int.bmod_eq_of_le <;> omega
        exact this
      refine ⟨by rw [e2]; omega, by rw [e2]; omega, fun q => absurd rfl q⟩
    · rw [if_neg hb] at h
      cases h
  · exact zb2_ok h
theorem zmul_ok {a c : zV} {k : zV → zO} {o} (h : zmul a c k = some o) : zisI a = true ∧ zisI c = true ∧ ∃ r, k r = some o ∧ ∀ x y, zgI ρ a x → zgI ρ c y → zgI ρ r (x * y) := by
  unfold zmul at h
  split at h
  · rename_i x0 y0
    refine ⟨rfl, rfl, zi ((x0 * y0) % 4294967296), (zk32_eq _ k).symm.trans h, fun x y h1 h2 => ?_⟩
    cases h1
    cases h2
    show _ = zI _
    rw [zI_mod, zI_mul]
  · refine ⟨rfl, rfl, _, h, fun x y h1 h2 => ?_⟩
    have e : x = 0 := h1.trans zI_0
    rw [e, Int32.zero_mul]
    exact zI_0.symm
  · exact zb2_ok h
theorem zwh_inv {c : Bool} {k : zO} {o} (h : zwh c k = some o) : c = true ∧ k = some o := by
  cases c
  · cases h
  · exact ⟨rfl, h⟩
theorem zand_ok {G : zG} (hG : ∀ a, G.1 = some a → zisI a = true → zgI ρ a (ρ 1 &&& 63)) {a c : zV} {k : zV → zO} {o} (h : zand G a c k = some o) : zisI a = true ∧ zisI c = true ∧ ∃ r, k r = some o ∧ ∀ x y, zgI ρ a x → zgI ρ c y → zgI ρ r (x &&& y) := by
  unfold zand at h
  split at h
  · split at h
    · rename_i a' ha'
      obtain ⟨h1, h2⟩ := zwh_inv h
      refine ⟨rfl, rfl, _, h2, fun x y g1 g2 => ?_⟩
      have e1 : x = ρ 1 := g1.2.2 (by decide)
      have e2 : y = 63 := g2.trans (by decide)
      rw [e1, e2]
      exact hG _ ha' h1
    · cases h
  · exact zb2_ok h
theorem zdv_ok {f : Int32 → Int32 → Int32} {a c : zV} {k : zV → zO} {o} (h : zdv f a c k = some o) : zisI a = true ∧ zisI c = true ∧ ∃ r, k r = some o ∧ ∀ x y, zgI ρ a x → zgI ρ c y → ¬ y = 0 ∧ zgI ρ r (f x y) := by
  unfold zdv at h
  split at h
  · rename_i y0
    by_cases hb : zI y0 = 0
    · rw [if_pos hb] at h
      cases h
    · rw [if_neg hb] at h
      obtain ⟨h1, h2, r, h3, h4⟩ := zb2_ok (ρ := ρ) h
      exact ⟨h1, h2, r, h3, fun x y g1 g2 => ⟨fun q => hb (g2 ▸ q), h4 x y g1 g2⟩⟩
  · cases h
theorem zu1_ok {f : Int32 → Int32} {a : zV} {k : zV → zO} {o} (h : zu1 f a k = some o) : zisI a = true ∧ ∃ r, k r = some o ∧ ∀ x, zgI ρ a x → zgI ρ r (f x) := by
  match a, h with
  | .inl x, h =>
    refine ⟨rfl, zi (zU (f (zI x))), (zki_eq _ k).symm.trans h, fun x' h1 => ?_⟩
    cases h1
    exact (zI_zU _).symm
  | .inr (.inl _), h => exact ⟨rfl, _, h, fun _ _ => zgI_top _⟩
  | .inr (.inr _), h => cases h
theorem zbd_ok {a : zV} {l u : Int} (h : zbd a = some (l, u)) {x : Int32} (hx : zgI ρ a x) : l ≤ x.toInt ∧ x.toInt ≤ u := by
  match a, h, hx with
  | .inl _, h, hx =>
    cases hx
    cases h
    exact ⟨Int.le_refl _, Int.le_refl _⟩
  | .inr (.inl (_, _, _)), h, hx =>
    cases h
    exact ⟨hx.1, hx.2.1⟩
theorem zbd_is {a : zV} {q : Int × Int} (h : zbd a = some q) : zisI a = true := by
  match a, h with
  | .inl _, _ => rfl
  | .inr (.inl (_, _, _)), _ => rfl
def zhold (c : Jvm.ClassFile.Cond) (x y : Int32) : Prop := match c with
  | .eq => x = y
  | .ne => ¬ x = y
  | .lt => x < y
  | .ge => y ≤ x
  | .gt => y < x
  | .le => x ≤ y
theorem zlt_ok {la ha lb hb : Int} {r : Bool} (h : zlt la ha lb hb = some r) {x y : Int32} (h1 : la ≤ x.toInt ∧ x.toInt ≤ ha) (h2 : lb ≤ y.toInt ∧ y.toInt ≤ hb) : x < y ↔ r = true := by
  rw [Int32.lt_iff_toInt_lt]
  unfold zlt at h
  split at h
  · cases h
    exact ⟨fun _ => rfl, fun _ => by omega⟩
  · split at h
    · cases h
      exact ⟨fun q => by omega, fun q => by cases q⟩
    · cases h
theorem zeq_ok {la ha lb hb : Int} {r : Bool} (h : zeq la ha lb hb = some r) {x y : Int32} (h1 : la ≤ x.toInt ∧ x.toInt ≤ ha) (h2 : lb ≤ y.toInt ∧ y.toInt ≤ hb) : x = y ↔ r = true := by
  rw [← Int32.toInt_inj]
  unfold zeq at h
  split at h
  · cases h
    exact ⟨fun _ => rfl, fun _ => by omega⟩
  · split at h
    · cases h
      exact ⟨fun q => by omega, fun q => by cases q⟩
    · cases h
theorem znot_ok {o : Option Bool} {r : Bool} (h : znot o = some r) : o = some (!r) := by
  match o, h with
  | some true, h => cases h; rfl
  | some false, h => cases h; rfl
theorem zcmpI_ok {c : Jvm.ClassFile.Cond} {a d : zV} {r : Bool} (h : zcmpI c a d = some r) : zisI a = true ∧ zisI d = true ∧ ∀ x y, zgI ρ a x → zgI ρ d y → (zhold c x y ↔ r = true) := by
  unfold zcmpI at h
  split at h
  · rename_i hsame
    match a, d, hsame with
    | .inr (.inl (lo, hi, i)), .inr (.inl (lo2, hi2, j)), hsame =>
      have hs2 : Nat.beq i j = true ∧ Nat.blt 0 i = true := by
        rw [← Bool.and_eq_true]
        exact hsame
      have e : i = j := Nat.eq_of_beq_eq_true hs2.1
      have h0 : i ≠ 0 := by
        have : 0 < i := Nat.le_of_ble_eq_true hs2.2
        omega
      refine ⟨rfl, rfl, fun x y hx hy => ?_⟩
      have exy : x = y := (hx.2.2 h0).trans ((e ▸ hy.2.2 (e ▸ h0)) : y = ρ i).symm
      subst exy
      cases h
      cases c with
      | eq => exact ⟨fun _ => rfl, fun _ => rfl⟩
      | ne => exact ⟨fun q => absurd rfl q, fun q => by cases q⟩
      | lt => exact ⟨fun q => (Int32.lt_irrefl q).elim, fun q => by cases q⟩
      | ge => exact ⟨fun _ => rfl, fun _ => Int32.le_refl x⟩
      | gt => exact ⟨fun q => (Int32.lt_irrefl q).elim, fun q => by cases q⟩
      | le => exact ⟨fun _ => rfl, fun _ => Int32.le_refl x⟩
  split at h
  · rename_i p q hp hq
    refine ⟨zbd_is hp, zbd_is hq, fun x y hx hy => ?_⟩
    have h1 := zbd_ok (l := p.1) (u := p.2) hp hx
    have h2 := zbd_ok (l := q.1) (u := q.2) hq hy
    cases c with
    | eq => exact zeq_ok h h1 h2
    | ne =>
      have := zeq_ok (znot_ok h) h1 h2
      show ¬ x = y ↔ _
      rw [this]
      cases r <;> simp
    | lt => exact zlt_ok h h1 h2
    | ge =>
      have := zlt_ok (znot_ok h) h1 h2
      show y ≤ x ↔ _
      rw [← Int32.not_lt, this]
      cases r <;> simp
    | gt => exact zlt_ok h h2 h1
    | le =>
      have := zlt_ok (znot_ok h) h2 h1
      show x ≤ y ↔ _
      rw [← Int32.not_lt, this]
      cases r <;> simp
  · cases h
theorem zsu_toInt (u : Nat) : (zI u).toInt = (zsu u : Int) - 2147483648 := by
  have e : (zI u).toInt = (u : Int).bmod (2 ^ 32) := by
    show (Int32.ofNat u).toInt = _
    rw [Int32.toInt_ofNat']
  rw [e]
  have e2 : zsu u = (u + 2147483648) % 4294967296 := rfl
  rw [e2]
  simp only [Int.bmod]
  split <;> omega
theorem zcmp_ok {c : Jvm.ClassFile.Cond} {a d : zV} {r : Bool} (h : zcmp c a d = some r) : zisI a = true ∧ zisI d = true ∧ ∀ x y, zgI ρ a x → zgI ρ d y → (zhold c x y ↔ r = true) := by
  unfold zcmp at h
  split at h
  · rename_i x0 y0
    refine ⟨rfl, rfl, fun x y hx hy => ?_⟩
    cases hx
    cases hy
    cases h
    have h1 := zsu_toInt x0
    have h2 := zsu_toInt y0
    cases c with
    | eq =>
      show zI x0 = zI y0 ↔ Nat.beq (zsu x0) (zsu y0) = true
      rw [← Int32.toInt_inj, Nat.beq_eq]
      omega
    | ne =>
      show ¬ zI x0 = zI y0 ↔ (!Nat.beq (zsu x0) (zsu y0)) = true
      rw [← Int32.toInt_inj, Bool.not_eq_true', ← Bool.not_eq_true, Nat.beq_eq]
      omega
    | lt =>
      show zI x0 < zI y0 ↔ Nat.blt (zsu x0) (zsu y0) = true
      rw [Int32.lt_iff_toInt_lt, Nat.blt_eq]
      omega
    | ge =>
      show zI y0 ≤ zI x0 ↔ Nat.ble (zsu y0) (zsu x0) = true
      rw [Int32.le_iff_toInt_le, Nat.ble_eq]
      omega
    | gt =>
      show zI y0 < zI x0 ↔ Nat.blt (zsu y0) (zsu x0) = true
      rw [Int32.lt_iff_toInt_lt, Nat.blt_eq]
      omega
    | le =>
      show zI x0 ≤ zI y0 ↔ Nat.ble (zsu x0) (zsu y0) = true
      rw [Int32.le_iff_toInt_le, Nat.ble_eq]
      omega
  · exact zcmpI_ok h
theorem zbr_inv {c : Option Bool} {t f : zO} {o} (h : zbr c t f = some o) : (c = some true ∧ t = some o) ∨ (c = some false ∧ f = some o) := by
  match c, h with
  | some true, h => exact Or.inl ⟨rfl, h⟩
  | some false, h => exact Or.inr ⟨rfl, h⟩
theorem zblt_f {n m : Nat} (h : m ≤ n) : Nat.blt n m = false := by
  rw [← Bool.not_eq_true, Nat.blt_eq]
  omega
theorem zde_A {n : Nat} (h : nat_lit 4294967296 ≤ n) : zde n = zdeA n := by
  unfold zde
  rw [zblt_f h]
theorem zde_I {n : Nat} (h : Nat.blt n (nat_lit 4294967296) = true) : zde n = zi n := by
  unfold zde
  rw [h]
theorem zdeA_b {n j a c : Nat} (h1 : n < 211106232532992) (h2 : n / 1048576 % 1048576 = a) (h3 : n % 1048576 = c) (h4 : n / 1099511627776 % 8 = j) : zdeA n = za (a : Int) (c : Int) j := by
  unfold zdeA
  rw [if_pos h1, h2, h3, h4]
theorem zdeA_t {n j : Nat} (h1 : ¬ n < 211106232532992) (h4 : n / 1099511627776 % 8 = j) : zdeA n = za zlo zhi j := by
  unfold zdeA
  rw [if_neg h1, h4]
theorem zn48 : (2 : Nat) ^ 48 = 281474976710656 := rfl
theorem zarith1 {j a c : Nat} (hj : j < 8) (h1 : a ≤ 1048575) (h2 : c ≤ 1048575) {n : Nat} (hn : n = 140737488355328 + j * 1099511627776 + a * 1048576 + c) : n < 281474976710656 ∧ 4294967296 ≤ n ∧ n < 211106232532992 ∧ n / 1048576 % 1048576 = a ∧ n % 1048576 = c ∧ n / 1099511627776 % 8 = j := by omega
theorem zarith2 {j : Nat} (hj : j < 8) {n : Nat} (hn : n = 211106232532992 + j * 1099511627776) : n < 281474976710656 ∧ 4294967296 ≤ n ∧ ¬ n < 211106232532992 ∧ n / 1099511627776 % 8 = j := by omega
theorem zen_b {lo hi : Int} {j : Nat} (hj : j < 8) (hb : 0 ≤ lo ∧ lo ≤ 1048575 ∧ 0 ≤ hi ∧ hi ≤ 1048575) {n : Nat} (hn : n = 140737488355328 + j * 1099511627776 + lo.toNat * 1048576 + hi.toNat) : n < 2 ^ 48 ∧ zde n = za lo hi j := by
  obtain ⟨b1, b2, b3, b4⟩ := hb
  obtain ⟨h1, h2, h3, h4, h5, h6⟩ := zarith1 hj (show lo.toNat ≤ 1048575 by omega) (show hi.toNat ≤ 1048575 by omega) hn
  refine ⟨by rw [zn48]; exact h1, ?_⟩
  rw [zde_A h2, zdeA_b h3 h4 h5 h6, Int.toNat_of_nonneg b1, Int.toNat_of_nonneg b3]
theorem zen_t {j : Nat} (hj : j < 8) {n : Nat} (hn : n = 211106232532992 + j * 1099511627776) : n < 2 ^ 48 ∧ zde n = za zlo zhi j := by
  obtain ⟨h1, h2, h3, h4⟩ := zarith2 hj hn
  exact ⟨by rw [zn48]; exact h1, by rw [zde_A h2, zdeA_t h3 h4]⟩
theorem zen_ok {a : zV} {k : Nat → zO} {o} (h : zen a k = some o) : ∃ n, k n = some o ∧ n < 2 ^ 48 ∧ ∀ x, zgI ρ a x → zgI ρ (zde n) x := by
  unfold zen at h
  split at h
  · rename_i u
    cases hb : Nat.blt u (nat_lit 4294967296)
    · rw [hb] at h
      cases h
    · rw [hb] at h
      refine ⟨u, h, ?_, fun x hx => ?_⟩
      · have hu : u.succ ≤ 4294967296 := Nat.le_of_ble_eq_true hb
        rw [zn48]
        omega
      · rw [zde_I hb]
        exact hx
  · rename_i lo hi j
    split at h
    · rename_i hj
      split at h
      · rename_i hb
        generalize hn : 140737488355328 + j * 1099511627776 + lo.toNat * 1048576 + hi.toNat = n at h
        obtain ⟨h1, h2⟩ := zen_b hj hb hn.symm
        exact ⟨n, h, h1, fun x hx => by rw [h2]; exact hx⟩
      · generalize hn : 211106232532992 + j * 1099511627776 = n at h
        obtain ⟨h1, h2⟩ := zen_t hj hn.symm
        exact ⟨n, h, h1, fun x hx => by rw [h2]; exact ⟨(zgI_top (ρ := ρ) x).1, (zgI_top (ρ := ρ) x).2.1, hx.2.2⟩⟩
    · cases h
  · cases h
/-! ===== what a step that comes through says ===== -/
theorem zwhen_inv {c : Bool} {k : zO} {o} (h : zwhen c k = some o) : c = true ∧ k = some o := by
  cases c
  · cases h
  · exact ⟨rfl, h⟩
theorem zld_inv {p : zV → Bool} {ls : zLs} {i : Nat} {k : zV → zO} {o} (h : zld p ls i k = some o) : ∃ a, zfind ls i = some a ∧ p a = true ∧ k a = some o := by
  unfold zld at h
  split at h
  · rename_i a ha
    exact ⟨a, ha, zwhen_inv h⟩
  · cases h
theorem z1_inv {st : List zV} {k : zV → List zV → zO} {o} (h : z1 st k = some o) : ∃ a r, st = a :: r ∧ k a r = some o := by
  match st, h with
  | a :: r, h => exact ⟨a, r, rfl, h⟩
theorem z2_inv {st : List zV} {k : zV → zV → List zV → zO} {o} (h : z2 st k = some o) : ∃ a c r, st = c :: a :: r ∧ k a c r = some o := by
  match st, h with
  | c :: a :: r, h => exact ⟨a, c, r, rfl, h⟩
theorem z3_inv {st : List zV} {k : zV → zV → zV → List zV → zO} {o} (h : z3 st k = some o) : ∃ a c d r, st = d :: c :: a :: r ∧ k a c d r = some o := by
  match st, h with
  | d :: c :: a :: r, h => exact ⟨a, c, d, r, rfl, h⟩
theorem zcell_inv {sz : Nat} {h : zH} {a : zV} {k : Nat → zC → zO} {o} (hh : zcell sz h a k = some o) : ∃ i, a = zr (i + 2) ∧ i < sz ∧ k i (zget h i) = some o := by
  unfold zcell at hh
  split at hh
  · rename_i i
    cases hb : Nat.blt i sz
    · rw [hb] at hh
      cases hh
    · rw [hb] at hh
      exact ⟨i, rfl, Nat.le_of_ble_eq_true hb, hh⟩
  · cases hh
theorem zidx_inv {n : Nat} {a : zV} {k : Nat → zO} {o} (hh : zidx n a k = some o) : ∃ u, a = zi u ∧ u < n ∧ k u = some o := by
  unfold zidx at hh
  split at hh
  · rename_i u
    cases hb : Nat.blt u n
    · rw [hb] at hh
      cases hh
    · rw [hb] at hh
      exact ⟨u, rfl, Nat.le_of_ble_eq_true hb, hh⟩
  · cases hh
theorem zint1_inv {a : zV} {k : Nat → zO} {o} (h : zint1 a k = some o) : ∃ u, a = zi u ∧ k u = some o := by
  match a, h with
  | .inl u, h => exact ⟨u, rfl, h⟩
theorem zlong1_inv {a : zV} {k : Nat → zO} {o} (h : zlong1 a k = some o) : ∃ u, a = zl u ∧ k u = some o := by
  match a, h with
  | .inr (.inr (.inl u)), h => exact ⟨u, rfl, h⟩
theorem ztgt_inv {pc : Nat} {off : Int} {k : Nat → zO} {o} (h : ztgt pc off k = some o) : ∃ t : Nat, (pc : Int) + off = (t : Int) ∧ k t = some o := by
  unfold ztgt at h
  split at h
  · rename_i hb
    exact ⟨_, by omega, h⟩
  · cases h
theorem zstore_eq (ls : zLs) (i : Nat) (w : Bool) (a : zV) (k : zLs → zO) : zstore ls i w a k = k ((i, a) :: ls.filter (fun q => !zdrop i w q)) := zrm_eq i w ls _
/-- a known place is a place -/
theorem zI_in {u n : Nat} (h : u < n) (hn : n < 2 ^ 31) : vp_in (zI u) n ∧ (zI u).toNatClampNeg = u := by
  have e : zI u = Int32.ofNat u := rfl
  have hu : u < 2 ^ 31 := Nat.lt_trans h hn
  have e2 : (zI u).toNatClampNeg = u := by rw [e]; exact Int32.toNatClampNeg_ofNat_of_lt hu
  refine ⟨fun q => ?_, e2⟩
  rcases q with q | q
  · rw [Int32.lt_iff_toInt_lt, e, Int32.toInt_ofNat_of_lt hu, Int32.toInt_zero] at q
    omega
  · rw [e2] at q
    omega
end ZG
