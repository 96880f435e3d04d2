/-! ===== what is known of a state: ranges, types, where a number came from ===== -/
abbrev aG : Type := Nat × Nat × Nat
abbrev aF : Type := aG × Int × Int
/-- of a number between the first two: a place is between the last two -/
abbrev aK : Type := Int × Int × aF
abbrev aE : Type := aV × aG × (Nat × Int) × List aK
abbrev aS : Type := List (Nat × aE) × List aE × List aF
def MK (x : Int) : Prop := 0 ≤ x ∧ x < 2533274790395904 ∧ ∀ i : Nat, i < 8 → (x / 64 ^ i) % 64 ≤ 37
theorem MK_0 : MK 0 := ⟨by omega, by omega, fun i _ => by rw [Int.zero_ediv]; omega⟩
def aval (a : aV) (p : pv) : Prop := p.1 = a.1 ∧ (a.1 = 0 → a.2.1 ≤ p.2 ∧ p.2 ≤ a.2.2.1 ∧ (a.2.2.2 : Int) ∣ p.2 - a.2.1) ∧ (a.1 = 1 → a.2.1 = 0 ∨ (MK p.2 ∧ (a.2.1 = 2 → p.2 / 281474976710656 = a.2.2.1 ∧ p.2 % 281474976710656 < 64 ^ a.2.2.1.toNat))) ∧ (a.1 = 2 → 0 ≤ p.2 ∧ p.2 < 622 ∧ tau p.2.toNat = a.2.2.2)
def WT (lv : Nat) (g : Nat → Nat → Int) (H : PH) : Prop := ∀ c i : Nat, c < 622 → i < (zSh c).2.1 → aval (fty (tau c) i) ((fty (tau c) i).1, gv H c i) ∧ (fz lv (tau c) i = true → gv H c i = g c i)
def oval (ls : PL) (H : PH) (o : aG) (x : Int) : Prop := match o.1 with
  | 1 => pget ls o.2.1 = some (0, x)
  | 2 => gv H o.2.1 o.2.2 = x
  | 3 => ∃ y, pget ls o.2.2 = some (0, y) ∧ gv H o.2.1 y = x
  | _ => False
def fok (ls : PL) (H : PH) (f : aF) : Prop := ∀ x, oval ls H f.1 x → f.2.1 ≤ x ∧ x ≤ f.2.2
def eok (ls0 ls : PL) (H : PH) (e : aE) (p : pv) : Prop := aval e.1 p ∧ (e.2.1.1 ≠ 0 → p.1 = 0 ∧ oval ls H e.2.1 p.2) ∧ (∀ v, e.2.2.1.1 = v + 1 → ∃ x, pget ls0 v = some (0, x) ∧ p = (0, x + e.2.2.1.2)) ∧ (p.1 = 0 → ∀ f ∈ e.2.2.2, f.1 ≤ p.2 → p.2 ≤ f.2.1 → fok ls H f.2.2)
def all2 (R : aE → pv → Prop) : List aE → List pv → Prop
  | [], [] => True
  | a :: s, b :: t => R a b ∧ all2 R s t
  | _, _ => False
def lok (ls0 ls : PL) (H : PH) (al : List (Nat × aE)) : Prop := ∀ q ∈ al, ∃ p, pget ls q.1 = some p ∧ eok ls0 ls H q.2 p
def gam (ls0 : PL) (S : aS) (ls : PL) (st : List pv) (H : PH) : Prop := lok ls0 ls H S.1 ∧ all2 (eok ls0 ls H) S.2.1 st ∧ ∀ f ∈ S.2.2, fok ls H f
theorem all2_len {R : aE → pv → Prop} : ∀ {s : List aE} {t : List pv}, all2 R s t → s.length = t.length
  | [], [], _ => rfl
  | _ :: _, _ :: _, h => congrArg (· + 1) (all2_len h.2)
theorem all2_mono {R R' : aE → pv → Prop} {f : aE → aE} (hf : ∀ a b, R a b → R' (f a) b) : ∀ {s : List aE} {t : List pv}, all2 R s t → all2 R' (s.map f) t
  | [], [], _ => trivial
  | _ :: _, _ :: _, h => ⟨hf _ _ h.1, all2_mono hf h.2⟩
theorem all2_take {R : aE → pv → Prop} : ∀ (n : Nat) {s : List aE} {t : List pv}, all2 R s t → all2 R (s.take n) (t.take n)
  | 0, _, _, _ => trivial
  | _ + 1, [], [], _ => trivial
  | n + 1, _ :: _, _ :: _, h => ⟨h.1, all2_take n h.2⟩
theorem all2_drop {R : aE → pv → Prop} : ∀ (n : Nat) {s : List aE} {t : List pv}, all2 R s t → all2 R (s.drop n) (t.drop n)
  | 0, _, _, h => h
  | _ + 1, [], [], _ => trivial
  | n + 1, _ :: _, _ :: _, h => all2_drop n h.2
theorem all2_append {R : aE → pv → Prop} : ∀ {s s' : List aE} {t t' : List pv}, all2 R s t → all2 R s' t' → all2 R (s ++ s') (t ++ t')
  | [], _, [], _, _, h => h
  | _ :: _, _, _ :: _, _, h, h' => ⟨h.1, all2_append h.2 h'⟩
theorem all2_reverse {R : aE → pv → Prop} : ∀ {s : List aE} {t : List pv}, all2 R s t → all2 R s.reverse t.reverse
  | [], [], _ => trivial
  | _ :: _, _ :: _, h => by
    rw [List.reverse_cons, List.reverse_cons]
    exact all2_append (all2_reverse h.2) ⟨h.1, trivial⟩
/-! numbers -/
def vint (a : aV) (x : Int) : Prop := a.2.1 ≤ x ∧ x ≤ a.2.2.1 ∧ (a.2.2.2 : Int) ∣ x - a.2.1
theorem aval_int {a : aV} {p : pv} (h : aval a p) (h0 : a.1 = 0) : p.1 = 0 ∧ vint a p.2 := ⟨h.1.trans h0, h.2.1 h0⟩
theorem aval_mk {lo hi : Int} {s : Nat} {x : Int} (h : vint (0, lo, hi, s) x) : aval (0, lo, hi, s) (0, x) := ⟨rfl, fun _ => h, fun q => (by cases q), fun q => (by cases q)⟩
theorem dvd_one (x : Int) : ((1 : Nat) : Int) ∣ x := ⟨x, by omega⟩
theorem aval_top {x : Int} (h : zIn x) : aval vtop (0, x) := aval_mk ⟨h.1, by have := h.2; show x ≤ 2147483647; omega, dvd_one _⟩
def inr (lo hi : Int) : Bool := decide (-2147483648 ≤ lo) && decide (hi ≤ 2147483647)
def vnorm (lo hi : Int) (s : Nat) : aV := if inr lo hi = true then (0, lo, hi, s) else vtop
theorem inr_ok {lo hi : Int} (h : inr lo hi = true) : -2147483648 ≤ lo ∧ hi ≤ 2147483647 := by
  unfold inr at h
  rw [Bool.and_eq_true, decide_eq_true_iff, decide_eq_true_iff] at h
  exact h
theorem vnorm_ok {lo hi : Int} {s : Nat} {x : Int} (h : vint (0, lo, hi, s) x) : aval (vnorm lo hi s) (0, zw x) := by
  unfold vnorm
  by_cases e : inr lo hi = true
  · rw [if_pos e]
    have e2 := inr_ok e
    have h1 : lo ≤ x := h.1
    have h2 : x ≤ hi := h.2.1
    rw [zw_id ⟨by omega, by omega⟩]
    exact aval_mk h
  · rw [if_neg e]
    exact aval_top (zw_in x)
def vadd (a b : aV) : aV := vnorm (a.2.1 + b.2.1) (a.2.2.1 + b.2.2.1) (Nat.gcd a.2.2.2 b.2.2.2)
theorem gcd_l (a b : Nat) {x : Int} (h : (a : Int) ∣ x) : ((Nat.gcd a b : Nat) : Int) ∣ x := Int.dvd_trans (Int.natCast_dvd_natCast.mpr (Nat.gcd_dvd_left a b)) h
theorem gcd_r (a b : Nat) {x : Int} (h : (b : Int) ∣ x) : ((Nat.gcd a b : Nat) : Int) ∣ x := Int.dvd_trans (Int.natCast_dvd_natCast.mpr (Nat.gcd_dvd_right a b)) h
theorem vadd_ok {a b : aV} {x y : Int} (h : vint a x) (h' : vint b y) : aval (vadd a b) (0, zw (x + y)) := by
  refine vnorm_ok ⟨?_, ?_, ?_⟩
  · show a.2.1 + b.2.1 ≤ x + y
    have := h.1
    have := h'.1
    omega
  · show x + y ≤ a.2.2.1 + b.2.2.1
    have := h.2.1
    have := h'.2.1
    omega
  · show _ ∣ x + y - (a.2.1 + b.2.1)
    have e : x + y - (a.2.1 + b.2.1) = (x - a.2.1) + (y - b.2.1) := by omega
    rw [e]
    exact Int.dvd_add (gcd_l _ _ h.2.2) (gcd_r _ _ h'.2.2)
theorem zero_dvd {x y : Int} (h : ((0 : Nat) : Int) ∣ x - y) : x = y := by
  obtain ⟨k, hk⟩ := h
  have : ((0 : Nat) : Int) * k = 0 := by simp
  omega
def vsub (a b : aV) : aV := if b.2.2.2 = 0 then vnorm (a.2.1 - b.2.1) (a.2.2.1 - b.2.1) a.2.2.2 else vnorm (a.2.1 - b.2.2.1) (a.2.2.1 - b.2.1) 1
theorem vsub_ok {a b : aV} {x y : Int} (h : vint a x) (h' : vint b y) : aval (vsub a b) (0, zw (x - y)) := by
  have h1 := h.1
  have h2 := h.2.1
  have h3 := h'.1
  have h4 := h'.2.1
  unfold vsub
  by_cases e : b.2.2.2 = 0
  · rw [if_pos e]
    have e2 := h'.2.2
    rw [e] at e2
    have e3 := zero_dvd e2
    refine vnorm_ok ⟨?_, ?_, ?_⟩
    · show a.2.1 - b.2.1 ≤ x - y
      omega
    · show x - y ≤ a.2.2.1 - b.2.1
      omega
    · show _ ∣ x - y - (a.2.1 - b.2.1)
      have e4 : x - y - (a.2.1 - b.2.1) = x - a.2.1 := by omega
      rw [e4]
      exact h.2.2
  · rw [if_neg e]
    refine vnorm_ok ⟨?_, ?_, dvd_one _⟩
    · show a.2.1 - b.2.2.1 ≤ x - y
      omega
    · show x - y ≤ a.2.2.1 - b.2.1
      omega
def imin (a b : Int) : Int := if a ≤ b then a else b
def imax (a b : Int) : Int := if a ≤ b then b else a
theorem imin_l (a b : Int) : imin a b ≤ a := by unfold imin; split <;> omega
theorem imin_r (a b : Int) : imin a b ≤ b := by unfold imin; split <;> omega
theorem imax_l (a b : Int) : a ≤ imax a b := by unfold imax; split <;> omega
theorem imax_r (a b : Int) : b ≤ imax a b := by unfold imax; split <;> omega
def mulc (a : aV) (k : Int) : aV := vnorm (a.2.1 * k) (a.2.2.1 * k) (a.2.2.2 * k.toNat)
theorem mulc_ok {a : aV} {x k : Int} (h : vint a x) (hk : 0 ≤ k) : aval (mulc a k) (0, zw (x * k)) := by
  refine vnorm_ok ⟨Int.mul_le_mul_of_nonneg_right h.1 hk, Int.mul_le_mul_of_nonneg_right h.2.1 hk, ?_⟩
  show ((a.2.2.2 * k.toNat : Nat) : Int) ∣ x * k - a.2.1 * k
  rw [← Int.sub_mul, Int.natCast_mul, Int.toNat_of_nonneg hk]
  exact Int.mul_dvd_mul h.2.2 (Int.dvd_refl k)
def vmul (a b : aV) : aV := if b.2.2.2 = 0 ∧ 0 ≤ b.2.1 then mulc a b.2.1 else if a.2.2.2 = 0 ∧ 0 ≤ a.2.1 then mulc b a.2.1 else vtop
theorem vmul_ok {a b : aV} {x y : Int} (h : vint a x) (h' : vint b y) : aval (vmul a b) (0, zw (x * y)) := by
  unfold vmul
  by_cases e : b.2.2.2 = 0 ∧ 0 ≤ b.2.1
  · rw [if_pos e]
    have e2 := h'.2.2
    rw [e.1] at e2
    rw [zero_dvd e2]
    exact mulc_ok h e.2
  · rw [if_neg e]
    by_cases e' : a.2.2.2 = 0 ∧ 0 ≤ a.2.1
    · rw [if_pos e']
      have e2 := h.2.2
      rw [e'.1] at e2
      rw [zero_dvd e2, Int.mul_comm]
      exact mulc_ok h' e'.2
    · rw [if_neg e']
      exact aval_top (zw_in _)
theorem q2_in (f : Int32 → Int32 → Int32) (x y : Int) : zIn (q2 f x y) := by
  have h1 := Int32.le_toInt (f (zI (zu x)) (zI (zu y)))
  have h2 := Int32.toInt_lt (f (zI (zu x)) (zI (zu y)))
  unfold zIn q2
  omega
theorem q1_in (f : Int32 → Int32) (x : Int) : zIn (q1 f x) := by
  have h1 := Int32.le_toInt (f (zI (zu x)))
  have h2 := Int32.toInt_lt (f (zI (zu x)))
  unfold zIn q1
  omega
def vdiv (a b : aV) : aV := if b.2.2.2 = 0 ∧ 0 < b.2.1 ∧ b.2.1 ≤ 2147483647 ∧ 0 ≤ a.2.1 ∧ a.2.2.1 ≤ 2147483647 then (0, a.2.1 / b.2.1, a.2.2.1 / b.2.1, if a.2.1 / b.2.1 = a.2.2.1 / b.2.1 then 0 else 1) else vtop
theorem vdiv_ok {a b : aV} {x y : Int} (h : vint a x) (h' : vint b y) : aval (vdiv a b) (0, q2 (· / ·) x y) := by
  unfold vdiv
  by_cases e : b.2.2.2 = 0 ∧ 0 < b.2.1 ∧ b.2.1 ≤ 2147483647 ∧ 0 ≤ a.2.1 ∧ a.2.2.1 ≤ 2147483647
  · rw [if_pos e]
    have e2 := h'.2.2
    rw [e.1] at e2
    have e3 := zero_dvd e2
    have h1 := h.1
    have h2 := h.2.1
    rw [q2_div (by omega) (by omega) (by omega) (by omega), e3]
    have d1 := Int.ediv_le_ediv e.2.1 h1
    have d2 := Int.ediv_le_ediv e.2.1 h2
    refine aval_mk ⟨d1, d2, ?_⟩
    show (((if a.2.1 / b.2.1 = a.2.2.1 / b.2.1 then 0 else 1 : Nat) : Nat) : Int) ∣ x / b.2.1 - a.2.1 / b.2.1
    split
    · have e5 : x / b.2.1 - a.2.1 / b.2.1 = 0 := by omega
      rw [e5]
      exact Int.dvd_zero _
    · exact dvd_one _
  · rw [if_neg e]
    exact aval_top (q2_in _ _ _)
def vrem (a b : aV) : aV := if b.2.2.2 = 0 ∧ 0 < b.2.1 ∧ b.2.1 ≤ 2147483647 ∧ 0 ≤ a.2.1 ∧ a.2.2.1 ≤ 2147483647 then (0, 0, b.2.1 - 1, 1) else vtop
theorem vrem_ok {a b : aV} {x y : Int} (h : vint a x) (h' : vint b y) : aval (vrem a b) (0, q2 (fun x y => x - x / y * y) x y) := by
  unfold vrem
  by_cases e : b.2.2.2 = 0 ∧ 0 < b.2.1 ∧ b.2.1 ≤ 2147483647 ∧ 0 ≤ a.2.1 ∧ a.2.2.1 ≤ 2147483647
  · rw [if_pos e]
    have e2 := h'.2.2
    rw [e.1] at e2
    have e3 := zero_dvd e2
    have h1 := h.1
    have h2 := h.2.1
    rw [q2_rem (by omega) (by omega) (by omega) (by omega), e3]
    have h5 := Int.emod_lt_of_pos x e.2.1
    exact aval_mk ⟨Int.emod_nonneg x (by omega), by show x % b.2.1 ≤ b.2.1 - 1; omega, dvd_one _⟩
  · rw [if_neg e]
    exact aval_top (q2_in _ _ _)
theorem q2_and' {x y : Int} (hx0 : 0 ≤ x) (hx : x < 2147483648) : 0 ≤ q2 (· &&& ·) x y ∧ q2 (· &&& ·) x y ≤ x := by
  have e : q2 (· &&& ·) x y = q2 (· &&& ·) y x := by
    unfold q2
    show (zI (zu x) &&& zI (zu y)).toInt = (zI (zu y) &&& zI (zu x)).toInt
    rw [Int32.and_comm]
  rw [e]
  exact q2_and hx0 hx
def vand (a b : aV) : aV := if 0 ≤ b.2.1 ∧ b.2.2.1 ≤ 2147483647 then (0, 0, b.2.2.1, 1) else if 0 ≤ a.2.1 ∧ a.2.2.1 ≤ 2147483647 then (0, 0, a.2.2.1, 1) else vtop
theorem vand_ok {a b : aV} {x y : Int} (h : vint a x) (h' : vint b y) : aval (vand a b) (0, q2 (· &&& ·) x y) := by
  have h1 := h.1
  have h2 := h.2.1
  have h3 := h'.1
  have h4 := h'.2.1
  unfold vand
  by_cases e : 0 ≤ b.2.1 ∧ b.2.2.1 ≤ 2147483647
  · rw [if_pos e]
    have := q2_and (x := x) (y := y) (by omega) (by omega)
    exact aval_mk ⟨this.1, by show q2 (· &&& ·) x y ≤ b.2.2.1; omega, dvd_one _⟩
  · rw [if_neg e]
    by_cases e' : 0 ≤ a.2.1 ∧ a.2.2.1 ≤ 2147483647
    · rw [if_pos e']
      have := q2_and' (x := x) (y := y) (by omega) (by omega)
      exact aval_mk ⟨this.1, by show q2 (· &&& ·) x y ≤ a.2.2.1; omega, dvd_one _⟩
    · rw [if_neg e']
      exact aval_top (q2_in _ _ _)
def vshl (a b : aV) : aV := if a.2.2.2 = 0 ∧ a.2.1 = 1 ∧ 0 ≤ b.2.1 ∧ b.2.2.1 ≤ 5 then (0, 1, 2 ^ b.2.2.1.toNat, 1) else vtop
theorem shl_ok {y : Int} {n : Nat} (h0 : 0 ≤ y) (h1 : y ≤ n) (hn : n ≤ 5) : 1 ≤ q2 (fun x y => x <<< (y &&& 31)) 1 y ∧ q2 (fun x y => x <<< (y &&& 31)) 1 y ≤ (2 : Int) ^ n := by
  have key : ∀ n : Nat, n < 6 → ∀ m : Nat, m < 6 → m ≤ n → 1 ≤ q2 (fun x y => x <<< (y &&& 31)) 1 (m : Int) ∧ q2 (fun x y => x <<< (y &&& 31)) 1 (m : Int) ≤ (2 : Int) ^ n := by decide +kernel
  obtain ⟨m, rfl⟩ := Int.eq_ofNat_of_zero_le h0
  exact key n (by omega) m (by omega) (by omega)
theorem vshl_ok {a b : aV} {x y : Int} (h : vint a x) (h' : vint b y) : aval (vshl a b) (0, q2 (fun x y => x <<< (y &&& 31)) x y) := by
  unfold vshl
  by_cases e : a.2.2.2 = 0 ∧ a.2.1 = 1 ∧ 0 ≤ b.2.1 ∧ b.2.2.1 ≤ 5
  · rw [if_pos e]
    have e2 := h.2.2
    rw [e.1] at e2
    have e3 := (zero_dvd e2).trans e.2.1
    subst e3
    have h3 := h'.1
    have h4 := h'.2.1
    have := shl_ok (y := y) (n := b.2.2.1.toNat) (by omega) (by omega) (by omega)
    exact aval_mk ⟨this.1, this.2, dvd_one _⟩
  · rw [if_neg e]
    exact aval_top (q2_in _ _ _)
def vmax (a b : aV) : aV := (0, imax a.2.1 b.2.1, imax a.2.2.1 b.2.2.1, 1)
theorem vmax_ok {a b : aV} {x y : Int} (h : vint a x) (h' : vint b y) : aval (vmax a b) (0, if x < y then y else x) := by
  refine aval_mk ⟨?_, ?_, dvd_one _⟩
  · show imax a.2.1 b.2.1 ≤ _
    have := h.1
    have := h'.1
    unfold imax
    split <;> split <;> omega
  · show _ ≤ imax a.2.2.1 b.2.2.1
    have := h.2.1
    have := h'.2.1
    unfold imax
    split <;> split <;> omega
def vmin (a b : aV) : aV := (0, imin a.2.1 b.2.1, imin a.2.2.1 b.2.2.1, 1)
theorem vmin_ok {a b : aV} {x y : Int} (h : vint a x) (h' : vint b y) : aval (vmin a b) (0, if y < x then y else x) := by
  refine aval_mk ⟨?_, ?_, dvd_one _⟩
  · show imin a.2.1 b.2.1 ≤ _
    have := h.1
    have := h'.1
    unfold imin
    split <;> split <;> omega
  · show _ ≤ imin a.2.2.1 b.2.2.1
    have := h.2.1
    have := h'.2.1
    unfold imin
    split <;> split <;> omega
/-! one range within another -/
def vsub' (a b : aV) : Bool := Nat.beq a.1 b.1 && (match a.1 with
  | 0 => decide (b.2.1 ≤ a.2.1) && decide (a.2.2.1 ≤ b.2.2.1) && (Nat.beq b.2.2.2 1 || (decide ((a.2.1 - b.2.1) % (b.2.2.2 : Int) = 0) && Nat.beq (a.2.2.2 % b.2.2.2) 0))
  | 1 => decide (b.2.1 = 0) || (decide (b.2.1 = 1) && decide (a.2.1 ≠ 0)) || (decide (a.2.1 = 2) && decide (b.2.1 = 2) && decide (a.2.2.1 = b.2.2.1))
  | _ => Nat.beq a.2.2.2 b.2.2.2)
theorem vsub'_ok {a b : aV} {p : pv} (h : vsub' a b = true) (hp : aval a p) : aval b p := by
  obtain ⟨t, lo, hi, s⟩ := a
  obtain ⟨t', lo', hi', s'⟩ := b
  unfold vsub' at h
  rw [Bool.and_eq_true] at h
  have ht : t = t' := Nat.eq_of_beq_eq_true h.1
  subst ht
  obtain ⟨h1, h2, h3, h4⟩ := hp
  refine ⟨h1, fun q => ?_, fun q => ?_, fun q => ?_⟩
  · have q0 : t = 0 := q
    subst q0
    obtain ⟨ha, hb, hc⟩ := h2 rfl
    have h5 := h.2
    simp only [Bool.and_eq_true, Bool.or_eq_true, decide_eq_true_iff] at h5
    obtain ⟨⟨g1, g2⟩, g3⟩ := h5
    refine ⟨Int.le_trans g1 ha, Int.le_trans hb g2, ?_⟩
    show (s' : Int) ∣ p.2 - lo'
    rcases g3 with g3 | ⟨g3, g4⟩
    · have : s' = 1 := Nat.eq_of_beq_eq_true g3
      rw [this]
      exact dvd_one _
    · have g5 : (s' : Int) ∣ lo - lo' := Int.dvd_of_emod_eq_zero g3
      have g6 : (s' : Int) ∣ (s : Int) := Int.natCast_dvd_natCast.mpr (Nat.dvd_of_mod_eq_zero (Nat.eq_of_beq_eq_true g4))
      have e : p.2 - lo' = (p.2 - lo) + (lo - lo') := by omega
      rw [e]
      exact Int.dvd_add (Int.dvd_trans g6 hc) g5
  · have q0 : t = 1 := q
    subst q0
    have h5 := h.2
    simp only [Bool.or_eq_true, Bool.and_eq_true, decide_eq_true_iff] at h5
    rcases h5 with (g | ⟨g, g'⟩) | ⟨⟨g, g'⟩, g''⟩
    · exact Or.inl g
    · exact Or.inr ⟨((h3 rfl).resolve_left g').1, fun q => absurd (g.symm.trans q) (by decide)⟩
    · refine Or.inr ?_
      have h6 := (h3 rfl).resolve_left (fun q => absurd (g.symm.trans q) (by decide))
      refine ⟨h6.1, fun _ => ?_⟩
      have h7 := h6.2 g
      rw [show hi = hi' from g''] at h7
      exact h7
  · have q0 : t = 2 := q
    subst q0
    have h5 : Nat.beq s s' = true := h.2
    have : s = s' := Nat.eq_of_beq_eq_true h5
    subst this
    exact h4 rfl
def vmeet (a : aV) (lo hi : Int) : aV := if a.1 = 0 then (0, if a.2.2.2 = 1 then imax a.2.1 lo else a.2.1, imin a.2.2.1 hi, a.2.2.2) else a
theorem vmeet_ok {a : aV} {lo hi : Int} {p : pv} (hp : aval a p) (h : p.1 = 0 → lo ≤ p.2 ∧ p.2 ≤ hi) : aval (vmeet a lo hi) p := by
  unfold vmeet
  by_cases e : a.1 = 0
  · rw [if_pos e]
    obtain ⟨h1, h2⟩ := aval_int hp e
    obtain ⟨t, x⟩ := p
    have h1 : t = 0 := h1
    subst h1
    obtain ⟨h3, h4⟩ := h rfl
    refine aval_mk ⟨?_, ?_, ?_⟩
    · show (if a.2.2.2 = 1 then imax a.2.1 lo else a.2.1) ≤ x
      have := h2.1
      have h3 : lo ≤ x := h3
      unfold imax
      split
      · split <;> assumption
      · assumption
    · show x ≤ imin a.2.2.1 hi
      have := h2.2.1
      have h4 : x ≤ hi := h4
      unfold imin
      split <;> assumption
    · show (a.2.2.2 : Int) ∣ x - (if a.2.2.2 = 1 then imax a.2.1 lo else a.2.1)
      by_cases e2 : a.2.2.2 = 1
      · rw [if_pos e2, e2]
        exact dvd_one _
      · rw [if_neg e2]
        exact h2.2.2
  · rw [if_neg e]
    exact hp
